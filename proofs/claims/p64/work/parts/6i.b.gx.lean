set_option maxHeartbeats 4000000 in
set_option maxRecDepth 100000 in
theorem lw_c0 {p : Program} {e : Env} {s : State} {m : MethodId} {below : List Frame} {meth : Method} {c : Code} (l : Launch) {sb L : Nat} {xs : Nat → Int32} (hL : L ≤ 3072) (C0 : lw_At p s m meth c sb L xs) {g : va_G} {cI cJ cB cZ cL : ClassId} (hK : va_K g vwCl (tyT cI cJ cB cZ cL) s) {kA vA : Nat → Nat} (hE : ENV kA vA (fun q : Nat => s.heap.size ≤ q) s) {x y : Nat} {ii : Nat} (h6 : ii + 6 ≤ L) (hend : ∀ (H : Heap) (locs : List Loc) (ls : Array Slot) (XT M : va_W) (sw sn ki mw mn kp : Nat → Int32) (hXT : XTSt cI cJ cB cZ cL x sw sn ki XT) (hM : MSt cI cJ cB cZ cL y mw mn kp M) (hJ : JJ sw sn ki mw mn kp) (hP : va_P g vwCl (XT ++ M) H) (hD : va_D (fun q : Nat => s.heap.size ≤ q) (XT ++ M)) (hS : va_S (fun q : Nat => s.heap.size ≤ q) s.heap H locs) (hl : lv_has ls 4 [(0, .ref sb), (1, .ref x), (2, .ref y), (3, .int (nI ii))]), W p l e room_1 s m #[Value.ref sb] below meth c H locs (1009 + 2 * ii) (100145 + 25 * ii) (lw_Z below #[Value.ref sb] s) (F0 m 2459 ls [])) (H : Heap) (locs : List Loc) (ls : Array Slot) (XT M : va_W) (sw sn ki mw mn kp : Nat → Int32) (hXT : XTSt cI cJ cB cZ cL x sw sn ki XT) (hM : MSt cI cJ cB cZ cL y mw mn kp M) (hJ : JJ sw sn ki mw mn kp) (hP : va_P g vwCl (XT ++ M) H) (hD : va_D (fun q : Nat => s.heap.size ≤ q) (XT ++ M)) (hS : va_S (fun q : Nat => s.heap.size ≤ q) s.heap H locs) (hl : lv_has ls 4 [(0, .ref sb), (1, .ref x), (2, .ref y), (3, .int (nI ii))]) : W p l e room_1 s m #[Value.ref sb] below meth c H locs (1000 + 2 * ii) (100000 + 25 * ii) (lw_Z below #[Value.ref sb] s) (F0 m 300 ls []) := by
  obtain ⟨hx, hb, hr, hml, hown, hts0, hX, hbl, hlocks, hgv⟩ := id C0
  have hts : ∀ w ∈ v_L_law, w.before #[Value.ref sb] s = true := fun w h => hts0 w (in_v_L_law w h)
  have hown : s.vm.findClass RL = some m.cls := hown
  have hA : ∀ q : Nat, s.heap.size ≤ q → (fun q : Nat => s.heap.size ≤ q) q := fun _ h => h
  have hbA : ¬ (fun q : Nat => s.heap.size ≤ q) sb := Nat.not_le.mpr hbl
  refine lv_aload_n hx hb dL_law_300 rfl (lv_at hl 1 rfl) ?_
  refine lv_aload_n hx hb dL_law_301 rfl (lv_at hl 0 rfl) ?_
  refine lv_iload_n hx hb dL_law_302 rfl (lv_at hl 3 rfl) ?_
  refine lv_iconst (v := 1) hx hb dL_law_303 (by decide) ?_
  refine lv_iadd hx hb dL_law_304 ?_
  refine va_sld hx hb hX hbl hbA hS (lw_ix 1 h6 hL (by decide)) dL_law_305 ?_
  refine lv_topi (nm_r (e' := xs (nI ii + 1).toNatClampNeg) rfl ?_)
  refine lv_aload_n hx hb dL_law_306 rfl (lv_at hl 0 rfl) ?_
  refine lv_iload_n hx hb dL_law_307 rfl (lv_at hl 3 rfl) ?_
  refine lv_iconst (v := 2) hx hb dL_law_308 (by decide) ?_
  refine lv_iadd hx hb dL_law_309 ?_
  refine va_sld hx hb hX hbl hbA hS (lw_ix 2 h6 hL (by decide)) dL_law_310 ?_
  refine lv_topi (nm_r (e' := xs (nI ii + 2).toNatClampNeg) rfl ?_)
  refine lv_aload_n hx hb dL_law_311 rfl (lv_at hl 0 rfl) ?_
  refine lv_iload_n hx hb dL_law_312 rfl (lv_at hl 3 rfl) ?_
  refine lv_iconst (v := 3) hx hb dL_law_313 (by decide) ?_
  refine lv_iadd hx hb dL_law_314 ?_
  refine va_sld hx hb hX hbl hbA hS (lw_ix 3 h6 hL (by decide)) dL_law_315 ?_
  refine lv_topi (nm_r (e' := xs (nI ii + 3).toNatClampNeg) rfl ?_)
  refine lv_aload_n hx hb dL_law_316 rfl (lv_at hl 0 rfl) ?_
  refine lv_iload_n hx hb dL_law_317 rfl (lv_at hl 3 rfl) ?_
  refine lv_iconst (v := 4) hx hb dL_law_318 (by decide) ?_
  refine lv_iadd hx hb dL_law_319 ?_
  refine va_sld hx hb hX hbl hbA hS (lw_ix 4 h6 hL (by decide)) dL_law_320 ?_
  refine lv_topi (nm_r (e' := xs (nI ii + 4).toNatClampNeg) rfl ?_)
  refine lv_aload_n hx hb dL_law_321 rfl (lv_at hl 0 rfl) ?_
  refine lv_iload_n hx hb dL_law_322 rfl (lv_at hl 3 rfl) ?_
  refine lv_iconst (v := 5) hx hb dL_law_323 (by decide) ?_
  refine lv_iadd hx hb dL_law_324 ?_
  refine va_sld hx hb hX hbl hbA hS (lw_ix 5 h6 hL (by decide)) dL_law_325 ?_
  refine lv_topi (nm_r (e' := xs (nI ii + 5).toNatClampNeg) rfl ?_)
  refine lc_i (X := XT) (Rr := M) (va_runV (As := [.int (xs (nI ii + 1).toNatClampNeg), .int (xs (nI ii + 2).toNatClampNeg), .int (xs (nI ii + 3).toNatClampNeg), .int (xs (nI ii + 4).toNatClampNeg), .int (xs (nI ii + 5).toNatClampNeg)]) (rest := []) ⟨hx, hb, hml, hown, hts⟩ (lift_i (fun im X hX => cx_X11_feed l g cI cJ cB cZ cL kA vA x im X H.size hX (xs (nI ii + 1).toNatClampNeg) (xs (nI ii + 2).toNatClampNeg) (xs (nI ii + 3).toNatClampNeg) (xs (nI ii + 4).toNatClampNeg) (xs (nI ii + 5).toNatClampNeg)) hXT) (cwV 5 hts (goodIn_app (g_4 (List.mem_cons_of_mem _ (List.mem_append_left _ (List.mem_of_getElem? (i := 0) rfl))) (List.mem_cons_of_mem _ (List.mem_append_left _ (List.mem_of_getElem? (i := 1) rfl))) (List.mem_cons_of_mem _ (List.mem_append_left _ (List.mem_of_getElem? (i := 2) rfl))) (List.mem_cons_of_mem _ (List.mem_append_left _ (List.mem_of_getElem? (i := 3) rfl))) (by decide +kernel)) (goodIn_sub ml_v_X11_feed good_v_X11_feed)) rfl rfl rfl (by decide +kernel) ⟨Nat.le_of_ble_eq_true rfl, Nat.le_of_ble_eq_true rfl⟩) (lc_pre (ci := 10) (q := (RX11, TX11, 11)) hK hE hS hA hP hD rfl (xt_mem hXT)) rfl rfl hl.1 rfl (lv_room (Nat.le_of_ble_eq_true rfl)) dL_law_326 ⟨(by show (1000 + 2 * ii) + 0 ≤ 600000; omega), (by show (100000 + 25 * ii) + 0 ≤ 7302250; omega)⟩) hS hA hP hD (fun r326 W1 H locs hz326 hP hD hS => ?_)
  obtain ⟨hr326, hW1⟩ := hz326
  refine lv_pop hx hb dL_law_329 rfl ?_
  refine lv_aload_n hx hb dL_law_330 rfl (lv_at hl 2 rfl) ?_
  refine lv_aload_n hx hb dL_law_331 rfl (lv_at hl 0 rfl) ?_
  refine lv_iload_n hx hb dL_law_332 rfl (lv_at hl 3 rfl) ?_
  refine lv_iconst (v := 1) hx hb dL_law_333 (by decide) ?_
  refine lv_iadd hx hb dL_law_334 ?_
  refine va_sld hx hb hX hbl hbA hS (lw_ix 1 h6 hL (by decide)) dL_law_335 ?_
  refine lv_topi (nm_r (e' := xs (nI ii + 1).toNatClampNeg) rfl ?_)
  refine lv_aload_n hx hb dL_law_336 rfl (lv_at hl 0 rfl) ?_
  refine lv_iload_n hx hb dL_law_337 rfl (lv_at hl 3 rfl) ?_
  refine lv_iconst (v := 2) hx hb dL_law_338 (by decide) ?_
  refine lv_iadd hx hb dL_law_339 ?_
  refine va_sld hx hb hX hbl hbA hS (lw_ix 2 h6 hL (by decide)) dL_law_340 ?_
  refine lv_topi (nm_r (e' := xs (nI ii + 2).toNatClampNeg) rfl ?_)
  refine lv_aload_n hx hb dL_law_341 rfl (lv_at hl 0 rfl) ?_
  refine lv_iload_n hx hb dL_law_342 rfl (lv_at hl 3 rfl) ?_
  refine lv_iconst (v := 3) hx hb dL_law_343 (by decide) ?_
  refine lv_iadd hx hb dL_law_344 ?_
  refine va_sld hx hb hX hbl hbA hS (lw_ix 3 h6 hL (by decide)) dL_law_345 ?_
  refine lv_topi (nm_r (e' := xs (nI ii + 3).toNatClampNeg) rfl ?_)
  refine lv_aload_n hx hb dL_law_346 rfl (lv_at hl 0 rfl) ?_
  refine lv_iload_n hx hb dL_law_347 rfl (lv_at hl 3 rfl) ?_
  refine lv_iconst (v := 4) hx hb dL_law_348 (by decide) ?_
  refine lv_iadd hx hb dL_law_349 ?_
  refine va_sld hx hb hX hbl hbA hS (lw_ix 4 h6 hL (by decide)) dL_law_350 ?_
  refine lv_topi (nm_r (e' := xs (nI ii + 4).toNatClampNeg) rfl ?_)
  refine lv_aload_n hx hb dL_law_351 rfl (lv_at hl 0 rfl) ?_
  refine lv_iload_n hx hb dL_law_352 rfl (lv_at hl 3 rfl) ?_
  refine lv_iconst (v := 5) hx hb dL_law_353 (by decide) ?_
  refine lv_iadd hx hb dL_law_354 ?_
  refine va_sld hx hb hX hbl hbA hS (lw_ix 5 h6 hL (by decide)) dL_law_355 ?_
  refine lv_topi (nm_r (e' := xs (nI ii + 5).toNatClampNeg) rfl ?_)
  have hP := pm_Pp List.perm_append_comm hP
  have hD := pm_Dp List.perm_append_comm hD
  refine lc_i (X := M) (Rr := W1) (va_runV (As := [.int (xs (nI ii + 1).toNatClampNeg), .int (xs (nI ii + 2).toNatClampNeg), .int (xs (nI ii + 3).toNatClampNeg), .int (xs (nI ii + 4).toNatClampNeg), .int (xs (nI ii + 5).toNatClampNeg)]) (rest := []) ⟨hx, hb, hml, hown, hts⟩ (cm_X12_feed l g cI cJ cB cZ cL kA vA y M H.size hM (xs (nI ii + 1).toNatClampNeg) (xs (nI ii + 2).toNatClampNeg) (xs (nI ii + 3).toNatClampNeg) (xs (nI ii + 4).toNatClampNeg) (xs (nI ii + 5).toNatClampNeg)) (cwV 5 hts (goodIn_app (g_4 (List.mem_cons_of_mem _ (List.mem_append_left _ (List.mem_of_getElem? (i := 4) rfl))) (List.mem_cons_of_mem _ (List.mem_append_left _ (List.mem_of_getElem? (i := 5) rfl))) (List.mem_cons_of_mem _ (List.mem_append_left _ (List.mem_of_getElem? (i := 6) rfl))) (List.mem_cons_of_mem _ (List.mem_append_left _ (List.mem_of_getElem? (i := 7) rfl))) (by decide +kernel)) (goodIn_sub ml_v_X12_feed good_v_X12_feed)) rfl rfl rfl (by decide +kernel) ⟨Nat.le_of_ble_eq_true rfl, Nat.le_of_ble_eq_true rfl⟩) (lc_pre (ci := 11) (q := (RX12, TX12, 56)) hK hE hS hA hP hD rfl (mt_mem hM)) rfl rfl hl.1 rfl (lv_room (Nat.le_of_ble_eq_true rfl)) dL_law_356 ⟨(by show (1000 + 2 * ii) + 0 + 0 ≤ 600000; omega), (by show (100000 + 25 * ii) + 0 + 0 ≤ 7302250; omega)⟩) hS hA hP hD (fun r356 W2 H locs hz356 hP hD hS => ?_)
  obtain ⟨hr356, hW2⟩ := hz356
  have hP := pm_Pp List.perm_append_comm hP
  have hD := pm_Dp List.perm_append_comm hD
  refine lv_pop hx hb dL_law_359 rfl ?_
  refine lv_goto (tgt := 2459) hx hb dL_law_360 (by decide) ?_
  refine W.widen (k := 1009 + 2 * ii) (n := 100145 + 25 * ii) (by omega) (by omega) ?_
  exact hend _ _ _ W1 W2 _ _ _ _ _ _ hW1 hW2 hJ hP hD hS hl
set_option maxHeartbeats 4000000 in
set_option maxRecDepth 100000 in
theorem lw_c1 {p : Program} {e : Env} {s : State} {m : MethodId} {below : List Frame} {meth : Method} {c : Code} (l : Launch) {sb L : Nat} {xs : Nat → Int32} (hL : L ≤ 3072) (C0 : lw_At p s m meth c sb L xs) {g : va_G} {cI cJ cB cZ cL : ClassId} (hK : va_K g vwCl (tyT cI cJ cB cZ cL) s) {kA vA : Nat → Nat} (hE : ENV kA vA (fun q : Nat => s.heap.size ≤ q) s) {x y : Nat} {ii : Nat} (h6 : ii + 6 ≤ L) (hend : ∀ (H : Heap) (locs : List Loc) (ls : Array Slot) (XT M : va_W) (sw sn ki mw mn kp : Nat → Int32) (hXT : XTSt cI cJ cB cZ cL x sw sn ki XT) (hM : MSt cI cJ cB cZ cL y mw mn kp M) (hJ : JJ sw sn ki mw mn kp) (hP : va_P g vwCl (XT ++ M) H) (hD : va_D (fun q : Nat => s.heap.size ≤ q) (XT ++ M)) (hS : va_S (fun q : Nat => s.heap.size ≤ q) s.heap H locs) (hl : lv_has ls 4 [(0, .ref sb), (1, .ref x), (2, .ref y), (3, .int (nI ii))]), W p l e room_1 s m #[Value.ref sb] below meth c H locs (1009 + 2 * ii) (100145 + 25 * ii) (lw_Z below #[Value.ref sb] s) (F0 m 2459 ls [])) (H : Heap) (locs : List Loc) (ls : Array Slot) (XT M : va_W) (sw sn ki mw mn kp : Nat → Int32) (hXT : XTSt cI cJ cB cZ cL x sw sn ki XT) (hM : MSt cI cJ cB cZ cL y mw mn kp M) (hJ : JJ sw sn ki mw mn kp) (hP : va_P g vwCl (XT ++ M) H) (hD : va_D (fun q : Nat => s.heap.size ≤ q) (XT ++ M)) (hS : va_S (fun q : Nat => s.heap.size ≤ q) s.heap H locs) (hl : lv_has ls 4 [(0, .ref sb), (1, .ref x), (2, .ref y), (3, .int (nI ii))]) : W p l e room_1 s m #[Value.ref sb] below meth c H locs (1000 + 2 * ii) (100000 + 25 * ii) (lw_Z below #[Value.ref sb] s) (F0 m 363 ls []) := by
  obtain ⟨hx, hb, hr, hml, hown, hts0, hX, hbl, hlocks, hgv⟩ := id C0
  have hts : ∀ w ∈ v_L_law, w.before #[Value.ref sb] s = true := fun w h => hts0 w (in_v_L_law w h)
  have hown : s.vm.findClass RL = some m.cls := hown
  have hA : ∀ q : Nat, s.heap.size ≤ q → (fun q : Nat => s.heap.size ≤ q) q := fun _ h => h
  have hbA : ¬ (fun q : Nat => s.heap.size ≤ q) sb := Nat.not_le.mpr hbl
  refine lv_aload_n hx hb dL_law_363 rfl (lv_at hl 1 rfl) ?_
  refine lv_aload_n hx hb dL_law_364 rfl (lv_at hl 0 rfl) ?_
  refine lv_iload_n hx hb dL_law_365 rfl (lv_at hl 3 rfl) ?_
  refine lv_iconst (v := 1) hx hb dL_law_366 (by decide) ?_
  refine lv_iadd hx hb dL_law_367 ?_
  refine va_sld hx hb hX hbl hbA hS (lw_ix 1 h6 hL (by decide)) dL_law_368 ?_
  refine lv_topi (nm_r (e' := xs (nI ii + 1).toNatClampNeg) rfl ?_)
  refine lc_i (X := XT) (Rr := M) (va_runV (As := [.int (xs (nI ii + 1).toNatClampNeg)]) (rest := []) ⟨hx, hb, hml, hown, hts⟩ (lift_i (fun im X hX => cx_X11_end l g cI cJ cB cZ cL kA vA x im X H.size hX (xs (nI ii + 1).toNatClampNeg)) hXT) (cwV 1 hts (goodIn_app (g_4 (List.mem_cons_of_mem _ (List.mem_append_left _ (List.mem_of_getElem? (i := 8) rfl))) (List.mem_cons_of_mem _ (List.mem_append_left _ (List.mem_of_getElem? (i := 9) rfl))) (List.mem_cons_of_mem _ (List.mem_append_left _ (List.mem_of_getElem? (i := 10) rfl))) (List.mem_cons_of_mem _ (List.mem_append_left _ (List.mem_of_getElem? (i := 3) rfl))) (by decide +kernel)) (goodIn_sub ml_v_X11_end good_v_X11_end)) rfl rfl rfl (by decide +kernel) ⟨Nat.le_of_ble_eq_true rfl, Nat.le_of_ble_eq_true rfl⟩) (lc_pre (ci := 10) (q := (RX11, TX11, 11)) hK hE hS hA hP hD rfl (xt_mem hXT)) rfl rfl hl.1 rfl (lv_room (Nat.le_of_ble_eq_true rfl)) dL_law_369 ⟨(by show (1000 + 2 * ii) + 0 ≤ 600000; omega), (by show (100000 + 25 * ii) + 0 ≤ 7302250; omega)⟩) hS hA hP hD (fun r369 W1 H locs hz369 hP hD hS => ?_)
  obtain ⟨hr369, hW1⟩ := hz369
  refine lv_pop hx hb dL_law_372 rfl ?_
  refine lv_aload_n hx hb dL_law_373 rfl (lv_at hl 2 rfl) ?_
  refine lv_aload_n hx hb dL_law_374 rfl (lv_at hl 0 rfl) ?_
  refine lv_iload_n hx hb dL_law_375 rfl (lv_at hl 3 rfl) ?_
  refine lv_iconst (v := 1) hx hb dL_law_376 (by decide) ?_
  refine lv_iadd hx hb dL_law_377 ?_
  refine va_sld hx hb hX hbl hbA hS (lw_ix 1 h6 hL (by decide)) dL_law_378 ?_
  refine lv_topi (nm_r (e' := xs (nI ii + 1).toNatClampNeg) rfl ?_)
  have hP := pm_Pp List.perm_append_comm hP
  have hD := pm_Dp List.perm_append_comm hD
  refine lc_i (X := M) (Rr := W1) (va_runV (As := [.int (xs (nI ii + 1).toNatClampNeg)]) (rest := []) ⟨hx, hb, hml, hown, hts⟩ (cm_X12_end l g cI cJ cB cZ cL kA vA y M H.size hM (xs (nI ii + 1).toNatClampNeg)) (cwV 1 hts (goodIn_app (g_4 (List.mem_cons_of_mem _ (List.mem_append_left _ (List.mem_of_getElem? (i := 11) rfl))) (List.mem_cons_of_mem _ (List.mem_append_left _ (List.mem_of_getElem? (i := 12) rfl))) (List.mem_cons_of_mem _ (List.mem_append_left _ (List.mem_of_getElem? (i := 13) rfl))) (List.mem_cons_of_mem _ (List.mem_append_left _ (List.mem_of_getElem? (i := 7) rfl))) (by decide +kernel)) (goodIn_sub ml_v_X12_end good_v_X12_end)) rfl rfl rfl (by decide +kernel) ⟨Nat.le_of_ble_eq_true rfl, Nat.le_of_ble_eq_true rfl⟩) (lc_pre (ci := 11) (q := (RX12, TX12, 56)) hK hE hS hA hP hD rfl (mt_mem hM)) rfl rfl hl.1 rfl (lv_room (Nat.le_of_ble_eq_true rfl)) dL_law_379 ⟨(by show (1000 + 2 * ii) + 0 + 0 ≤ 600000; omega), (by show (100000 + 25 * ii) + 0 + 0 ≤ 7302250; omega)⟩) hS hA hP hD (fun r379 W2 H locs hz379 hP hD hS => ?_)
  obtain ⟨hr379, hW2⟩ := hz379
  have hP := pm_Pp List.perm_append_comm hP
  have hD := pm_Dp List.perm_append_comm hD
  refine lv_pop hx hb dL_law_382 rfl ?_
  refine lv_goto (tgt := 2459) hx hb dL_law_383 (by decide) ?_
  refine W.widen (k := 1009 + 2 * ii) (n := 100145 + 25 * ii) (by omega) (by omega) ?_
  exact hend _ _ _ W1 W2 _ _ _ _ _ _ hW1 hW2 hJ hP hD hS hl
set_option maxHeartbeats 4000000 in
set_option maxRecDepth 100000 in
theorem lw_c2 {p : Program} {e : Env} {s : State} {m : MethodId} {below : List Frame} {meth : Method} {c : Code} (l : Launch) {sb L : Nat} {xs : Nat → Int32} (hL : L ≤ 3072) (C0 : lw_At p s m meth c sb L xs) {g : va_G} {cI cJ cB cZ cL : ClassId} (hK : va_K g vwCl (tyT cI cJ cB cZ cL) s) {kA vA : Nat → Nat} (hE : ENV kA vA (fun q : Nat => s.heap.size ≤ q) s) {x y : Nat} {ii : Nat} (h6 : ii + 6 ≤ L) (hend : ∀ (H : Heap) (locs : List Loc) (ls : Array Slot) (XT M : va_W) (sw sn ki mw mn kp : Nat → Int32) (hXT : XTSt cI cJ cB cZ cL x sw sn ki XT) (hM : MSt cI cJ cB cZ cL y mw mn kp M) (hJ : JJ sw sn ki mw mn kp) (hP : va_P g vwCl (XT ++ M) H) (hD : va_D (fun q : Nat => s.heap.size ≤ q) (XT ++ M)) (hS : va_S (fun q : Nat => s.heap.size ≤ q) s.heap H locs) (hl : lv_has ls 4 [(0, .ref sb), (1, .ref x), (2, .ref y), (3, .int (nI ii))]), W p l e room_1 s m #[Value.ref sb] below meth c H locs (1009 + 2 * ii) (100145 + 25 * ii) (lw_Z below #[Value.ref sb] s) (F0 m 2459 ls [])) (H : Heap) (locs : List Loc) (ls : Array Slot) (XT M : va_W) (sw sn ki mw mn kp : Nat → Int32) (hXT : XTSt cI cJ cB cZ cL x sw sn ki XT) (hM : MSt cI cJ cB cZ cL y mw mn kp M) (hJ : JJ sw sn ki mw mn kp) (hP : va_P g vwCl (XT ++ M) H) (hD : va_D (fun q : Nat => s.heap.size ≤ q) (XT ++ M)) (hS : va_S (fun q : Nat => s.heap.size ≤ q) s.heap H locs) (hl : lv_has ls 4 [(0, .ref sb), (1, .ref x), (2, .ref y), (3, .int (nI ii))]) : W p l e room_1 s m #[Value.ref sb] below meth c H locs (1000 + 2 * ii) (100000 + 25 * ii) (lw_Z below #[Value.ref sb] s) (F0 m 386 ls []) := by
  obtain ⟨hx, hb, hr, hml, hown, hts0, hX, hbl, hlocks, hgv⟩ := id C0
  have hts : ∀ w ∈ v_L_law, w.before #[Value.ref sb] s = true := fun w h => hts0 w (in_v_L_law w h)
  have hown : s.vm.findClass RL = some m.cls := hown
  have hA : ∀ q : Nat, s.heap.size ≤ q → (fun q : Nat => s.heap.size ≤ q) q := fun _ h => h
  have hbA : ¬ (fun q : Nat => s.heap.size ≤ q) sb := Nat.not_le.mpr hbl
  refine lv_aload_n hx hb dL_law_386 rfl (lv_at hl 1 rfl) ?_
  refine lc_i (X := XT) (Rr := M) (va_runV (As := []) (rest := []) ⟨hx, hb, hml, hown, hts⟩ (lift_i (fun im X hX => cx_X11_land l g cI cJ cB cZ cL kA vA x im X H.size hX ) hXT) (cwV 0 hts (goodIn_app (g_4 (List.mem_cons_of_mem _ (List.mem_append_left _ (List.mem_of_getElem? (i := 14) rfl))) (List.mem_cons_of_mem _ (List.mem_append_left _ (List.mem_of_getElem? (i := 15) rfl))) (List.mem_cons_of_mem _ (List.mem_append_left _ (List.mem_of_getElem? (i := 16) rfl))) (List.mem_cons_of_mem _ (List.mem_append_left _ (List.mem_of_getElem? (i := 3) rfl))) (by decide +kernel)) (goodIn_sub ml_v_X11_land good_v_X11_land)) rfl rfl rfl (by decide +kernel) ⟨Nat.le_of_ble_eq_true rfl, Nat.le_of_ble_eq_true rfl⟩) (lc_pre (ci := 10) (q := (RX11, TX11, 11)) hK hE hS hA hP hD rfl (xt_mem hXT)) rfl rfl hl.1 rfl (lv_room (Nat.le_of_ble_eq_true rfl)) dL_law_387 ⟨(by show (1000 + 2 * ii) + 0 ≤ 600000; omega), (by show (100000 + 25 * ii) + 0 ≤ 7302250; omega)⟩) hS hA hP hD (fun r387 W1 H locs hz387 hP hD hS => ?_)
  obtain ⟨hr387, hW1⟩ := hz387
  refine lv_pop hx hb dL_law_390 rfl ?_
  refine lv_aload_n hx hb dL_law_391 rfl (lv_at hl 2 rfl) ?_
  have hP := pm_Pp List.perm_append_comm hP
  have hD := pm_Dp List.perm_append_comm hD
  refine lc_i (X := M) (Rr := W1) (va_runV (As := []) (rest := []) ⟨hx, hb, hml, hown, hts⟩ (cm_X12_land l g cI cJ cB cZ cL kA vA y M H.size hM ) (cwV 0 hts (goodIn_app (g_4 (List.mem_cons_of_mem _ (List.mem_append_left _ (List.mem_of_getElem? (i := 17) rfl))) (List.mem_cons_of_mem _ (List.mem_append_left _ (List.mem_of_getElem? (i := 18) rfl))) (List.mem_cons_of_mem _ (List.mem_append_left _ (List.mem_of_getElem? (i := 19) rfl))) (List.mem_cons_of_mem _ (List.mem_append_left _ (List.mem_of_getElem? (i := 7) rfl))) (by decide +kernel)) (goodIn_sub ml_v_X12_land good_v_X12_land)) rfl rfl rfl (by decide +kernel) ⟨Nat.le_of_ble_eq_true rfl, Nat.le_of_ble_eq_true rfl⟩) (lc_pre (ci := 11) (q := (RX12, TX12, 56)) hK hE hS hA hP hD rfl (mt_mem hM)) rfl rfl hl.1 rfl (lv_room (Nat.le_of_ble_eq_true rfl)) dL_law_392 ⟨(by show (1000 + 2 * ii) + 0 + 0 ≤ 600000; omega), (by show (100000 + 25 * ii) + 0 + 0 ≤ 7302250; omega)⟩) hS hA hP hD (fun r392 W2 H locs hz392 hP hD hS => ?_)
  obtain ⟨hr392, hW2⟩ := hz392
  have hP := pm_Pp List.perm_append_comm hP
  have hD := pm_Dp List.perm_append_comm hD
  refine lv_pop hx hb dL_law_395 rfl ?_
  refine lv_goto (tgt := 2459) hx hb dL_law_396 (by decide) ?_
  refine W.widen (k := 1009 + 2 * ii) (n := 100145 + 25 * ii) (by omega) (by omega) ?_
  exact hend _ _ _ W1 W2 _ _ _ _ _ _ hW1 hW2 hJ hP hD hS hl
set_option maxHeartbeats 4000000 in
set_option maxRecDepth 100000 in
theorem lw_c3 {p : Program} {e : Env} {s : State} {m : MethodId} {below : List Frame} {meth : Method} {c : Code} (l : Launch) {sb L : Nat} {xs : Nat → Int32} (hL : L ≤ 3072) (C0 : lw_At p s m meth c sb L xs) {g : va_G} {cI cJ cB cZ cL : ClassId} (hK : va_K g vwCl (tyT cI cJ cB cZ cL) s) {kA vA : Nat → Nat} (hE : ENV kA vA (fun q : Nat => s.heap.size ≤ q) s) {x y : Nat} {ii : Nat} (h6 : ii + 6 ≤ L) (hend : ∀ (H : Heap) (locs : List Loc) (ls : Array Slot) (XT M : va_W) (sw sn ki mw mn kp : Nat → Int32) (hXT : XTSt cI cJ cB cZ cL x sw sn ki XT) (hM : MSt cI cJ cB cZ cL y mw mn kp M) (hJ : JJ sw sn ki mw mn kp) (hP : va_P g vwCl (XT ++ M) H) (hD : va_D (fun q : Nat => s.heap.size ≤ q) (XT ++ M)) (hS : va_S (fun q : Nat => s.heap.size ≤ q) s.heap H locs) (hl : lv_has ls 4 [(0, .ref sb), (1, .ref x), (2, .ref y), (3, .int (nI ii))]), W p l e room_1 s m #[Value.ref sb] below meth c H locs (1009 + 2 * ii) (100145 + 25 * ii) (lw_Z below #[Value.ref sb] s) (F0 m 2459 ls [])) (H : Heap) (locs : List Loc) (ls : Array Slot) (XT M : va_W) (sw sn ki mw mn kp : Nat → Int32) (hXT : XTSt cI cJ cB cZ cL x sw sn ki XT) (hM : MSt cI cJ cB cZ cL y mw mn kp M) (hJ : JJ sw sn ki mw mn kp) (hP : va_P g vwCl (XT ++ M) H) (hD : va_D (fun q : Nat => s.heap.size ≤ q) (XT ++ M)) (hS : va_S (fun q : Nat => s.heap.size ≤ q) s.heap H locs) (hl : lv_has ls 4 [(0, .ref sb), (1, .ref x), (2, .ref y), (3, .int (nI ii))]) : W p l e room_1 s m #[Value.ref sb] below meth c H locs (1000 + 2 * ii) (100000 + 25 * ii) (lw_Z below #[Value.ref sb] s) (F0 m 399 ls []) := by
  obtain ⟨hx, hb, hr, hml, hown, hts0, hX, hbl, hlocks, hgv⟩ := id C0
  have hts : ∀ w ∈ v_L_law, w.before #[Value.ref sb] s = true := fun w h => hts0 w (in_v_L_law w h)
  have hown : s.vm.findClass RL = some m.cls := hown
  have hA : ∀ q : Nat, s.heap.size ≤ q → (fun q : Nat => s.heap.size ≤ q) q := fun _ h => h
  have hbA : ¬ (fun q : Nat => s.heap.size ≤ q) sb := Nat.not_le.mpr hbl
  refine lv_aload_n hx hb dL_law_399 rfl (lv_at hl 1 rfl) ?_
  refine lv_aload_n hx hb dL_law_400 rfl (lv_at hl 0 rfl) ?_
  refine lv_iload_n hx hb dL_law_401 rfl (lv_at hl 3 rfl) ?_
  refine lv_iconst (v := 1) hx hb dL_law_402 (by decide) ?_
  refine lv_iadd hx hb dL_law_403 ?_
  refine va_sld hx hb hX hbl hbA hS (lw_ix 1 h6 hL (by decide)) dL_law_404 ?_
  refine lv_topi (nm_r (e' := xs (nI ii + 1).toNatClampNeg) rfl ?_)
  refine lc_i (X := XT) (Rr := M) (va_runV (As := [.int (xs (nI ii + 1).toNatClampNeg)]) (rest := []) ⟨hx, hb, hml, hown, hts⟩ (lift_i (fun im X hX => cx_X11_fault l g cI cJ cB cZ cL kA vA x im X H.size hX (xs (nI ii + 1).toNatClampNeg)) hXT) (cwV 1 hts (goodIn_app (g_4 (List.mem_cons_of_mem _ (List.mem_append_left _ (List.mem_of_getElem? (i := 20) rfl))) (List.mem_cons_of_mem _ (List.mem_append_left _ (List.mem_of_getElem? (i := 21) rfl))) (List.mem_cons_of_mem _ (List.mem_append_left _ (List.mem_of_getElem? (i := 22) rfl))) (List.mem_cons_of_mem _ (List.mem_append_left _ (List.mem_of_getElem? (i := 3) rfl))) (by decide +kernel)) (goodIn_sub ml_v_X11_fault good_v_X11_fault)) rfl rfl rfl (by decide +kernel) ⟨Nat.le_of_ble_eq_true rfl, Nat.le_of_ble_eq_true rfl⟩) (lc_pre (ci := 10) (q := (RX11, TX11, 11)) hK hE hS hA hP hD rfl (xt_mem hXT)) rfl rfl hl.1 rfl (lv_room (Nat.le_of_ble_eq_true rfl)) dL_law_405 ⟨(by show (1000 + 2 * ii) + 0 ≤ 600000; omega), (by show (100000 + 25 * ii) + 0 ≤ 7302250; omega)⟩) hS hA hP hD (fun r405 W1 H locs hz405 hP hD hS => ?_)
  obtain ⟨hr405, hW1⟩ := hz405
  refine lv_pop hx hb dL_law_408 rfl ?_
  refine lv_aload_n hx hb dL_law_409 rfl (lv_at hl 2 rfl) ?_
  refine lv_aload_n hx hb dL_law_410 rfl (lv_at hl 0 rfl) ?_
  refine lv_iload_n hx hb dL_law_411 rfl (lv_at hl 3 rfl) ?_
  refine lv_iconst (v := 1) hx hb dL_law_412 (by decide) ?_
  refine lv_iadd hx hb dL_law_413 ?_
  refine va_sld hx hb hX hbl hbA hS (lw_ix 1 h6 hL (by decide)) dL_law_414 ?_
  refine lv_topi (nm_r (e' := xs (nI ii + 1).toNatClampNeg) rfl ?_)
  have hP := pm_Pp List.perm_append_comm hP
  have hD := pm_Dp List.perm_append_comm hD
  refine lc_i (X := M) (Rr := W1) (va_runV (As := [.int (xs (nI ii + 1).toNatClampNeg)]) (rest := []) ⟨hx, hb, hml, hown, hts⟩ (cm_X12_fault l g cI cJ cB cZ cL kA vA y M H.size hM (xs (nI ii + 1).toNatClampNeg)) (cwV 1 hts (goodIn_app (g_4 (List.mem_cons_of_mem _ (List.mem_append_left _ (List.mem_of_getElem? (i := 23) rfl))) (List.mem_cons_of_mem _ (List.mem_append_left _ (List.mem_of_getElem? (i := 24) rfl))) (List.mem_cons_of_mem _ (List.mem_append_left _ (List.mem_of_getElem? (i := 25) rfl))) (List.mem_cons_of_mem _ (List.mem_append_left _ (List.mem_of_getElem? (i := 7) rfl))) (by decide +kernel)) (goodIn_sub ml_v_X12_fault good_v_X12_fault)) rfl rfl rfl (by decide +kernel) ⟨Nat.le_of_ble_eq_true rfl, Nat.le_of_ble_eq_true rfl⟩) (lc_pre (ci := 11) (q := (RX12, TX12, 56)) hK hE hS hA hP hD rfl (mt_mem hM)) rfl rfl hl.1 rfl (lv_room (Nat.le_of_ble_eq_true rfl)) dL_law_415 ⟨(by show (1000 + 2 * ii) + 0 + 0 ≤ 600000; omega), (by show (100000 + 25 * ii) + 0 + 0 ≤ 7302250; omega)⟩) hS hA hP hD (fun r415 W2 H locs hz415 hP hD hS => ?_)
  obtain ⟨hr415, hW2⟩ := hz415
  have hP := pm_Pp List.perm_append_comm hP
  have hD := pm_Dp List.perm_append_comm hD
  refine lv_pop hx hb dL_law_418 rfl ?_
  refine lv_goto (tgt := 2459) hx hb dL_law_419 (by decide) ?_
  refine W.widen (k := 1009 + 2 * ii) (n := 100145 + 25 * ii) (by omega) (by omega) ?_
  exact hend _ _ _ W1 W2 _ _ _ _ _ _ hW1 hW2 hJ hP hD hS hl
set_option maxHeartbeats 4000000 in
set_option maxRecDepth 100000 in
theorem lw_c4 {p : Program} {e : Env} {s : State} {m : MethodId} {below : List Frame} {meth : Method} {c : Code} (l : Launch) {sb L : Nat} {xs : Nat → Int32} (hL : L ≤ 3072) (C0 : lw_At p s m meth c sb L xs) {g : va_G} {cI cJ cB cZ cL : ClassId} (hK : va_K g vwCl (tyT cI cJ cB cZ cL) s) {kA vA : Nat → Nat} (hE : ENV kA vA (fun q : Nat => s.heap.size ≤ q) s) {x y : Nat} {ii : Nat} (h6 : ii + 6 ≤ L) (hend : ∀ (H : Heap) (locs : List Loc) (ls : Array Slot) (XT M : va_W) (sw sn ki mw mn kp : Nat → Int32) (hXT : XTSt cI cJ cB cZ cL x sw sn ki XT) (hM : MSt cI cJ cB cZ cL y mw mn kp M) (hJ : JJ sw sn ki mw mn kp) (hP : va_P g vwCl (XT ++ M) H) (hD : va_D (fun q : Nat => s.heap.size ≤ q) (XT ++ M)) (hS : va_S (fun q : Nat => s.heap.size ≤ q) s.heap H locs) (hl : lv_has ls 4 [(0, .ref sb), (1, .ref x), (2, .ref y), (3, .int (nI ii))]), W p l e room_1 s m #[Value.ref sb] below meth c H locs (1009 + 2 * ii) (100145 + 25 * ii) (lw_Z below #[Value.ref sb] s) (F0 m 2459 ls [])) (H : Heap) (locs : List Loc) (ls : Array Slot) (XT M : va_W) (sw sn ki mw mn kp : Nat → Int32) (hXT : XTSt cI cJ cB cZ cL x sw sn ki XT) (hM : MSt cI cJ cB cZ cL y mw mn kp M) (hJ : JJ sw sn ki mw mn kp) (hP : va_P g vwCl (XT ++ M) H) (hD : va_D (fun q : Nat => s.heap.size ≤ q) (XT ++ M)) (hS : va_S (fun q : Nat => s.heap.size ≤ q) s.heap H locs) (hl : lv_has ls 4 [(0, .ref sb), (1, .ref x), (2, .ref y), (3, .int (nI ii))]) : W p l e room_1 s m #[Value.ref sb] below meth c H locs (1000 + 2 * ii) (100000 + 25 * ii) (lw_Z below #[Value.ref sb] s) (F0 m 422 ls []) := by
  obtain ⟨hx, hb, hr, hml, hown, hts0, hX, hbl, hlocks, hgv⟩ := id C0
  have hts : ∀ w ∈ v_L_law, w.before #[Value.ref sb] s = true := fun w h => hts0 w (in_v_L_law w h)
  have hown : s.vm.findClass RL = some m.cls := hown
  have hA : ∀ q : Nat, s.heap.size ≤ q → (fun q : Nat => s.heap.size ≤ q) q := fun _ h => h
  have hbA : ¬ (fun q : Nat => s.heap.size ≤ q) sb := Nat.not_le.mpr hbl
  refine lv_aload_n hx hb dL_law_422 rfl (lv_at hl 1 rfl) ?_
  refine lv_aload_n hx hb dL_law_423 rfl (lv_at hl 0 rfl) ?_
  refine lv_iload_n hx hb dL_law_424 rfl (lv_at hl 3 rfl) ?_
  refine lv_iconst (v := 1) hx hb dL_law_425 (by decide) ?_
  refine lv_iadd hx hb dL_law_426 ?_
  refine va_sld hx hb hX hbl hbA hS (lw_ix 1 h6 hL (by decide)) dL_law_427 ?_
  refine lv_topi (nm_r (e' := xs (nI ii + 1).toNatClampNeg) rfl ?_)
  refine lv_aload_n hx hb dL_law_428 rfl (lv_at hl 0 rfl) ?_
  refine lv_iload_n hx hb dL_law_429 rfl (lv_at hl 3 rfl) ?_
  refine lv_iconst (v := 2) hx hb dL_law_430 (by decide) ?_
  refine lv_iadd hx hb dL_law_431 ?_
  refine va_sld hx hb hX hbl hbA hS (lw_ix 2 h6 hL (by decide)) dL_law_432 ?_
  refine lv_topi (nm_r (e' := xs (nI ii + 2).toNatClampNeg) rfl ?_)
  refine lc_i (X := XT) (Rr := M) (va_runV (As := [.int (xs (nI ii + 1).toNatClampNeg), .int (xs (nI ii + 2).toNatClampNeg)]) (rest := []) ⟨hx, hb, hml, hown, hts⟩ (lift_i (fun im X hX => cx_X11_person l g cI cJ cB cZ cL kA vA x im X H.size hX (xs (nI ii + 1).toNatClampNeg) (xs (nI ii + 2).toNatClampNeg)) hXT) (cwV 2 hts (goodIn_app (g_4 (List.mem_cons_of_mem _ (List.mem_append_left _ (List.mem_of_getElem? (i := 26) rfl))) (List.mem_cons_of_mem _ (List.mem_append_left _ (List.mem_of_getElem? (i := 27) rfl))) (List.mem_cons_of_mem _ (List.mem_append_left _ (List.mem_of_getElem? (i := 28) rfl))) (List.mem_cons_of_mem _ (List.mem_append_left _ (List.mem_of_getElem? (i := 3) rfl))) (by decide +kernel)) (goodIn_sub ml_v_X11_person good_v_X11_person)) rfl rfl rfl (by decide +kernel) ⟨Nat.le_of_ble_eq_true rfl, Nat.le_of_ble_eq_true rfl⟩) (lc_pre (ci := 10) (q := (RX11, TX11, 11)) hK hE hS hA hP hD rfl (xt_mem hXT)) rfl rfl hl.1 rfl (lv_room (Nat.le_of_ble_eq_true rfl)) dL_law_433 ⟨(by show (1000 + 2 * ii) + 0 ≤ 600000; omega), (by show (100000 + 25 * ii) + 0 ≤ 7302250; omega)⟩) hS hA hP hD (fun r433 W1 H locs hz433 hP hD hS => ?_)
  obtain ⟨hr433, hW1⟩ := hz433
  refine lv_pop hx hb dL_law_436 rfl ?_
  refine lv_aload_n hx hb dL_law_437 rfl (lv_at hl 2 rfl) ?_
  refine lv_aload_n hx hb dL_law_438 rfl (lv_at hl 0 rfl) ?_
  refine lv_iload_n hx hb dL_law_439 rfl (lv_at hl 3 rfl) ?_
  refine lv_iconst (v := 1) hx hb dL_law_440 (by decide) ?_
  refine lv_iadd hx hb dL_law_441 ?_
  refine va_sld hx hb hX hbl hbA hS (lw_ix 1 h6 hL (by decide)) dL_law_442 ?_
  refine lv_topi (nm_r (e' := xs (nI ii + 1).toNatClampNeg) rfl ?_)
  refine lv_aload_n hx hb dL_law_443 rfl (lv_at hl 0 rfl) ?_
  refine lv_iload_n hx hb dL_law_444 rfl (lv_at hl 3 rfl) ?_
  refine lv_iconst (v := 2) hx hb dL_law_445 (by decide) ?_
  refine lv_iadd hx hb dL_law_446 ?_
  refine va_sld hx hb hX hbl hbA hS (lw_ix 2 h6 hL (by decide)) dL_law_447 ?_
  refine lv_topi (nm_r (e' := xs (nI ii + 2).toNatClampNeg) rfl ?_)
  have hP := pm_Pp List.perm_append_comm hP
  have hD := pm_Dp List.perm_append_comm hD
  refine lc_i (X := M) (Rr := W1) (va_runV (As := [.int (xs (nI ii + 1).toNatClampNeg), .int (xs (nI ii + 2).toNatClampNeg)]) (rest := []) ⟨hx, hb, hml, hown, hts⟩ (cm_X12_person l g cI cJ cB cZ cL kA vA y M H.size hM (xs (nI ii + 1).toNatClampNeg) (xs (nI ii + 2).toNatClampNeg)) (cwV 2 hts (goodIn_app (g_4 (List.mem_cons_of_mem _ (List.mem_append_left _ (List.mem_of_getElem? (i := 29) rfl))) (List.mem_cons_of_mem _ (List.mem_append_left _ (List.mem_of_getElem? (i := 30) rfl))) (List.mem_cons_of_mem _ (List.mem_append_left _ (List.mem_of_getElem? (i := 31) rfl))) (List.mem_cons_of_mem _ (List.mem_append_left _ (List.mem_of_getElem? (i := 7) rfl))) (by decide +kernel)) (goodIn_sub ml_v_X12_person good_v_X12_person)) rfl rfl rfl (by decide +kernel) ⟨Nat.le_of_ble_eq_true rfl, Nat.le_of_ble_eq_true rfl⟩) (lc_pre (ci := 11) (q := (RX12, TX12, 56)) hK hE hS hA hP hD rfl (mt_mem hM)) rfl rfl hl.1 rfl (lv_room (Nat.le_of_ble_eq_true rfl)) dL_law_448 ⟨(by show (1000 + 2 * ii) + 0 + 0 ≤ 600000; omega), (by show (100000 + 25 * ii) + 0 + 0 ≤ 7302250; omega)⟩) hS hA hP hD (fun r448 W2 H locs hz448 hP hD hS => ?_)
  obtain ⟨hr448, hW2⟩ := hz448
  have hP := pm_Pp List.perm_append_comm hP
  have hD := pm_Dp List.perm_append_comm hD
  refine lv_pop hx hb dL_law_451 rfl ?_
  refine lv_goto (tgt := 2459) hx hb dL_law_452 (by decide) ?_
  refine W.widen (k := 1009 + 2 * ii) (n := 100145 + 25 * ii) (by omega) (by omega) ?_
  exact hend _ _ _ W1 W2 _ _ _ _ _ _ hW1 hW2 hJ hP hD hS hl
set_option maxHeartbeats 4000000 in
set_option maxRecDepth 100000 in
theorem lw_c5 {p : Program} {e : Env} {s : State} {m : MethodId} {below : List Frame} {meth : Method} {c : Code} (l : Launch) {sb L : Nat} {xs : Nat → Int32} (hL : L ≤ 3072) (C0 : lw_At p s m meth c sb L xs) {g : va_G} {cI cJ cB cZ cL : ClassId} (hK : va_K g vwCl (tyT cI cJ cB cZ cL) s) {kA vA : Nat → Nat} (hE : ENV kA vA (fun q : Nat => s.heap.size ≤ q) s) {x y : Nat} {ii : Nat} (h6 : ii + 6 ≤ L) (hend : ∀ (H : Heap) (locs : List Loc) (ls : Array Slot) (XT M : va_W) (sw sn ki mw mn kp : Nat → Int32) (hXT : XTSt cI cJ cB cZ cL x sw sn ki XT) (hM : MSt cI cJ cB cZ cL y mw mn kp M) (hJ : JJ sw sn ki mw mn kp) (hP : va_P g vwCl (XT ++ M) H) (hD : va_D (fun q : Nat => s.heap.size ≤ q) (XT ++ M)) (hS : va_S (fun q : Nat => s.heap.size ≤ q) s.heap H locs) (hl : lv_has ls 4 [(0, .ref sb), (1, .ref x), (2, .ref y), (3, .int (nI ii))]), W p l e room_1 s m #[Value.ref sb] below meth c H locs (1009 + 2 * ii) (100145 + 25 * ii) (lw_Z below #[Value.ref sb] s) (F0 m 2459 ls [])) (H : Heap) (locs : List Loc) (ls : Array Slot) (XT M : va_W) (sw sn ki mw mn kp : Nat → Int32) (hXT : XTSt cI cJ cB cZ cL x sw sn ki XT) (hM : MSt cI cJ cB cZ cL y mw mn kp M) (hJ : JJ sw sn ki mw mn kp) (hP : va_P g vwCl (XT ++ M) H) (hD : va_D (fun q : Nat => s.heap.size ≤ q) (XT ++ M)) (hS : va_S (fun q : Nat => s.heap.size ≤ q) s.heap H locs) (hl : lv_has ls 4 [(0, .ref sb), (1, .ref x), (2, .ref y), (3, .int (nI ii))]) : W p l e room_1 s m #[Value.ref sb] below meth c H locs (1000 + 2 * ii) (100000 + 25 * ii) (lw_Z below #[Value.ref sb] s) (F0 m 455 ls []) := by
  obtain ⟨hx, hb, hr, hml, hown, hts0, hX, hbl, hlocks, hgv⟩ := id C0
  have hts : ∀ w ∈ v_L_law, w.before #[Value.ref sb] s = true := fun w h => hts0 w (in_v_L_law w h)
  have hown : s.vm.findClass RL = some m.cls := hown
  have hA : ∀ q : Nat, s.heap.size ≤ q → (fun q : Nat => s.heap.size ≤ q) q := fun _ h => h
  have hbA : ¬ (fun q : Nat => s.heap.size ≤ q) sb := Nat.not_le.mpr hbl
  refine lv_aload_n hx hb dL_law_455 rfl (lv_at hl 1 rfl) ?_
  refine lv_aload_n hx hb dL_law_456 rfl (lv_at hl 0 rfl) ?_
  refine lv_iload_n hx hb dL_law_457 rfl (lv_at hl 3 rfl) ?_
  refine lv_iconst (v := 1) hx hb dL_law_458 (by decide) ?_
  refine lv_iadd hx hb dL_law_459 ?_
  refine va_sld hx hb hX hbl hbA hS (lw_ix 1 h6 hL (by decide)) dL_law_460 ?_
  refine lv_topi (nm_r (e' := xs (nI ii + 1).toNatClampNeg) rfl ?_)
  refine lv_aload_n hx hb dL_law_461 rfl (lv_at hl 0 rfl) ?_
  refine lv_iload_n hx hb dL_law_462 rfl (lv_at hl 3 rfl) ?_
  refine lv_iconst (v := 2) hx hb dL_law_463 (by decide) ?_
  refine lv_iadd hx hb dL_law_464 ?_
  refine va_sld hx hb hX hbl hbA hS (lw_ix 2 h6 hL (by decide)) dL_law_465 ?_
  refine lv_topi (nm_r (e' := xs (nI ii + 2).toNatClampNeg) rfl ?_)
  refine lc_i (X := XT) (Rr := M) (va_runV (As := [.int (xs (nI ii + 1).toNatClampNeg), .int (xs (nI ii + 2).toNatClampNeg)]) (rest := []) ⟨hx, hb, hml, hown, hts⟩ (lift_i (fun im X hX => cx_X11_pair l g cI cJ cB cZ cL kA vA x im X H.size hX (xs (nI ii + 1).toNatClampNeg) (xs (nI ii + 2).toNatClampNeg)) hXT) (cwV 2 hts (goodIn_app (g_4 (List.mem_cons_of_mem _ (List.mem_append_left _ (List.mem_of_getElem? (i := 32) rfl))) (List.mem_cons_of_mem _ (List.mem_append_left _ (List.mem_of_getElem? (i := 33) rfl))) (List.mem_cons_of_mem _ (List.mem_append_left _ (List.mem_of_getElem? (i := 34) rfl))) (List.mem_cons_of_mem _ (List.mem_append_left _ (List.mem_of_getElem? (i := 3) rfl))) (by decide +kernel)) (goodIn_sub ml_v_X11_pair good_v_X11_pair)) rfl rfl rfl (by decide +kernel) ⟨Nat.le_of_ble_eq_true rfl, Nat.le_of_ble_eq_true rfl⟩) (lc_pre (ci := 10) (q := (RX11, TX11, 11)) hK hE hS hA hP hD rfl (xt_mem hXT)) rfl rfl hl.1 rfl (lv_room (Nat.le_of_ble_eq_true rfl)) dL_law_466 ⟨(by show (1000 + 2 * ii) + 0 ≤ 600000; omega), (by show (100000 + 25 * ii) + 0 ≤ 7302250; omega)⟩) hS hA hP hD (fun r466 W1 H locs hz466 hP hD hS => ?_)
  obtain ⟨hr466, hW1⟩ := hz466
  refine lv_pop hx hb dL_law_469 rfl ?_
  refine lv_aload_n hx hb dL_law_470 rfl (lv_at hl 2 rfl) ?_
  refine lv_aload_n hx hb dL_law_471 rfl (lv_at hl 0 rfl) ?_
  refine lv_iload_n hx hb dL_law_472 rfl (lv_at hl 3 rfl) ?_
  refine lv_iconst (v := 1) hx hb dL_law_473 (by decide) ?_
  refine lv_iadd hx hb dL_law_474 ?_
  refine va_sld hx hb hX hbl hbA hS (lw_ix 1 h6 hL (by decide)) dL_law_475 ?_
  refine lv_topi (nm_r (e' := xs (nI ii + 1).toNatClampNeg) rfl ?_)
  refine lv_aload_n hx hb dL_law_476 rfl (lv_at hl 0 rfl) ?_
  refine lv_iload_n hx hb dL_law_477 rfl (lv_at hl 3 rfl) ?_
  refine lv_iconst (v := 2) hx hb dL_law_478 (by decide) ?_
  refine lv_iadd hx hb dL_law_479 ?_
  refine va_sld hx hb hX hbl hbA hS (lw_ix 2 h6 hL (by decide)) dL_law_480 ?_
  refine lv_topi (nm_r (e' := xs (nI ii + 2).toNatClampNeg) rfl ?_)
  have hP := pm_Pp List.perm_append_comm hP
  have hD := pm_Dp List.perm_append_comm hD
  refine lc_i (X := M) (Rr := W1) (va_runV (As := [.int (xs (nI ii + 1).toNatClampNeg), .int (xs (nI ii + 2).toNatClampNeg)]) (rest := []) ⟨hx, hb, hml, hown, hts⟩ (cm_X12_pair l g cI cJ cB cZ cL kA vA y M H.size hM (xs (nI ii + 1).toNatClampNeg) (xs (nI ii + 2).toNatClampNeg)) (cwV 2 hts (goodIn_app (g_4 (List.mem_cons_of_mem _ (List.mem_append_left _ (List.mem_of_getElem? (i := 35) rfl))) (List.mem_cons_of_mem _ (List.mem_append_left _ (List.mem_of_getElem? (i := 36) rfl))) (List.mem_cons_of_mem _ (List.mem_append_left _ (List.mem_of_getElem? (i := 37) rfl))) (List.mem_cons_of_mem _ (List.mem_append_left _ (List.mem_of_getElem? (i := 7) rfl))) (by decide +kernel)) (goodIn_sub ml_v_X12_pair good_v_X12_pair)) rfl rfl rfl (by decide +kernel) ⟨Nat.le_of_ble_eq_true rfl, Nat.le_of_ble_eq_true rfl⟩) (lc_pre (ci := 11) (q := (RX12, TX12, 56)) hK hE hS hA hP hD rfl (mt_mem hM)) rfl rfl hl.1 rfl (lv_room (Nat.le_of_ble_eq_true rfl)) dL_law_481 ⟨(by show (1000 + 2 * ii) + 0 + 0 ≤ 600000; omega), (by show (100000 + 25 * ii) + 0 + 0 ≤ 7302250; omega)⟩) hS hA hP hD (fun r481 W2 H locs hz481 hP hD hS => ?_)
  obtain ⟨hr481, hW2⟩ := hz481
  have hP := pm_Pp List.perm_append_comm hP
  have hD := pm_Dp List.perm_append_comm hD
  refine lv_pop hx hb dL_law_484 rfl ?_
  refine lv_goto (tgt := 2459) hx hb dL_law_485 (by decide) ?_
  refine W.widen (k := 1009 + 2 * ii) (n := 100145 + 25 * ii) (by omega) (by omega) ?_
  exact hend _ _ _ W1 W2 _ _ _ _ _ _ hW1 hW2 hJ hP hD hS hl
set_option maxHeartbeats 4000000 in
set_option maxRecDepth 100000 in
theorem lw_c6 {p : Program} {e : Env} {s : State} {m : MethodId} {below : List Frame} {meth : Method} {c : Code} (l : Launch) {sb L : Nat} {xs : Nat → Int32} (hL : L ≤ 3072) (C0 : lw_At p s m meth c sb L xs) {g : va_G} {cI cJ cB cZ cL : ClassId} (hK : va_K g vwCl (tyT cI cJ cB cZ cL) s) {kA vA : Nat → Nat} (hE : ENV kA vA (fun q : Nat => s.heap.size ≤ q) s) {x y : Nat} {ii : Nat} (h6 : ii + 6 ≤ L) (hend : ∀ (H : Heap) (locs : List Loc) (ls : Array Slot) (XT M : va_W) (sw sn ki mw mn kp : Nat → Int32) (hXT : XTSt cI cJ cB cZ cL x sw sn ki XT) (hM : MSt cI cJ cB cZ cL y mw mn kp M) (hJ : JJ sw sn ki mw mn kp) (hP : va_P g vwCl (XT ++ M) H) (hD : va_D (fun q : Nat => s.heap.size ≤ q) (XT ++ M)) (hS : va_S (fun q : Nat => s.heap.size ≤ q) s.heap H locs) (hl : lv_has ls 4 [(0, .ref sb), (1, .ref x), (2, .ref y), (3, .int (nI ii))]), W p l e room_1 s m #[Value.ref sb] below meth c H locs (1009 + 2 * ii) (100145 + 25 * ii) (lw_Z below #[Value.ref sb] s) (F0 m 2459 ls [])) (H : Heap) (locs : List Loc) (ls : Array Slot) (XT M : va_W) (sw sn ki mw mn kp : Nat → Int32) (hXT : XTSt cI cJ cB cZ cL x sw sn ki XT) (hM : MSt cI cJ cB cZ cL y mw mn kp M) (hJ : JJ sw sn ki mw mn kp) (hP : va_P g vwCl (XT ++ M) H) (hD : va_D (fun q : Nat => s.heap.size ≤ q) (XT ++ M)) (hS : va_S (fun q : Nat => s.heap.size ≤ q) s.heap H locs) (hl : lv_has ls 4 [(0, .ref sb), (1, .ref x), (2, .ref y), (3, .int (nI ii))]) : W p l e room_1 s m #[Value.ref sb] below meth c H locs (1000 + 2 * ii) (100000 + 25 * ii) (lw_Z below #[Value.ref sb] s) (F0 m 488 ls []) := by
  obtain ⟨hx, hb, hr, hml, hown, hts0, hX, hbl, hlocks, hgv⟩ := id C0
  have hts : ∀ w ∈ v_L_law, w.before #[Value.ref sb] s = true := fun w h => hts0 w (in_v_L_law w h)
  have hown : s.vm.findClass RL = some m.cls := hown
  have hA : ∀ q : Nat, s.heap.size ≤ q → (fun q : Nat => s.heap.size ≤ q) q := fun _ h => h
  have hbA : ¬ (fun q : Nat => s.heap.size ≤ q) sb := Nat.not_le.mpr hbl
  refine lv_aload_n hx hb dL_law_488 rfl (lv_at hl 1 rfl) ?_
  refine lv_aload_n hx hb dL_law_489 rfl (lv_at hl 0 rfl) ?_
  refine lv_iload_n hx hb dL_law_490 rfl (lv_at hl 3 rfl) ?_
  refine lv_iconst (v := 1) hx hb dL_law_491 (by decide) ?_
  refine lv_iadd hx hb dL_law_492 ?_
  refine va_sld hx hb hX hbl hbA hS (lw_ix 1 h6 hL (by decide)) dL_law_493 ?_
  refine lv_topi (nm_r (e' := xs (nI ii + 1).toNatClampNeg) rfl ?_)
  refine lv_aload_n hx hb dL_law_494 rfl (lv_at hl 0 rfl) ?_
  refine lv_iload_n hx hb dL_law_495 rfl (lv_at hl 3 rfl) ?_
  refine lv_iconst (v := 2) hx hb dL_law_496 (by decide) ?_
  refine lv_iadd hx hb dL_law_497 ?_
  refine va_sld hx hb hX hbl hbA hS (lw_ix 2 h6 hL (by decide)) dL_law_498 ?_
  refine lv_topi (nm_r (e' := xs (nI ii + 2).toNatClampNeg) rfl ?_)
  refine lc_i (X := XT) (Rr := M) (va_runV (As := [.int (xs (nI ii + 1).toNatClampNeg), .int (xs (nI ii + 2).toNatClampNeg)]) (rest := []) ⟨hx, hb, hml, hown, hts⟩ (lift_i (fun im X hX => cx_X11_of l g cI cJ cB cZ cL kA vA x im X H.size hX (xs (nI ii + 1).toNatClampNeg) (xs (nI ii + 2).toNatClampNeg)) hXT) (cwV 2 hts (goodIn_app (g_4 (List.mem_cons_of_mem _ (List.mem_append_left _ (List.mem_of_getElem? (i := 38) rfl))) (List.mem_cons_of_mem _ (List.mem_append_left _ (List.mem_of_getElem? (i := 39) rfl))) (List.mem_cons_of_mem _ (List.mem_append_left _ (List.mem_of_getElem? (i := 40) rfl))) (List.mem_cons_of_mem _ (List.mem_append_left _ (List.mem_of_getElem? (i := 3) rfl))) (by decide +kernel)) (goodIn_sub ml_v_X11_of good_v_X11_of)) rfl rfl rfl (by decide +kernel) ⟨Nat.le_of_ble_eq_true rfl, Nat.le_of_ble_eq_true rfl⟩) (lc_pre (ci := 10) (q := (RX11, TX11, 11)) hK hE hS hA hP hD rfl (xt_mem hXT)) rfl rfl hl.1 rfl (lv_room (Nat.le_of_ble_eq_true rfl)) dL_law_499 ⟨(by show (1000 + 2 * ii) + 0 ≤ 600000; omega), (by show (100000 + 25 * ii) + 0 ≤ 7302250; omega)⟩) hS hA hP hD (fun r499 W1 H locs hz499 hP hD hS => ?_)
  obtain ⟨hr499, hW1⟩ := hz499
  refine lv_pop hx hb dL_law_502 rfl ?_
  refine lv_aload_n hx hb dL_law_503 rfl (lv_at hl 2 rfl) ?_
  refine lv_aload_n hx hb dL_law_504 rfl (lv_at hl 0 rfl) ?_
  refine lv_iload_n hx hb dL_law_505 rfl (lv_at hl 3 rfl) ?_
  refine lv_iconst (v := 1) hx hb dL_law_506 (by decide) ?_
  refine lv_iadd hx hb dL_law_507 ?_
  refine va_sld hx hb hX hbl hbA hS (lw_ix 1 h6 hL (by decide)) dL_law_508 ?_
  refine lv_topi (nm_r (e' := xs (nI ii + 1).toNatClampNeg) rfl ?_)
  refine lv_aload_n hx hb dL_law_509 rfl (lv_at hl 0 rfl) ?_
  refine lv_iload_n hx hb dL_law_510 rfl (lv_at hl 3 rfl) ?_
  refine lv_iconst (v := 2) hx hb dL_law_511 (by decide) ?_
  refine lv_iadd hx hb dL_law_512 ?_
  refine va_sld hx hb hX hbl hbA hS (lw_ix 2 h6 hL (by decide)) dL_law_513 ?_
  refine lv_topi (nm_r (e' := xs (nI ii + 2).toNatClampNeg) rfl ?_)
  have hP := pm_Pp List.perm_append_comm hP
  have hD := pm_Dp List.perm_append_comm hD
  refine lc_i (X := M) (Rr := W1) (va_runV (As := [.int (xs (nI ii + 1).toNatClampNeg), .int (xs (nI ii + 2).toNatClampNeg)]) (rest := []) ⟨hx, hb, hml, hown, hts⟩ (cm_X12_of l g cI cJ cB cZ cL kA vA y M H.size hM (xs (nI ii + 1).toNatClampNeg) (xs (nI ii + 2).toNatClampNeg)) (cwV 2 hts (goodIn_app (g_4 (List.mem_cons_of_mem _ (List.mem_append_left _ (List.mem_of_getElem? (i := 41) rfl))) (List.mem_cons_of_mem _ (List.mem_append_left _ (List.mem_of_getElem? (i := 42) rfl))) (List.mem_cons_of_mem _ (List.mem_append_left _ (List.mem_of_getElem? (i := 43) rfl))) (List.mem_cons_of_mem _ (List.mem_append_left _ (List.mem_of_getElem? (i := 7) rfl))) (by decide +kernel)) (goodIn_sub ml_v_X12_of good_v_X12_of)) rfl rfl rfl (by decide +kernel) ⟨Nat.le_of_ble_eq_true rfl, Nat.le_of_ble_eq_true rfl⟩) (lc_pre (ci := 11) (q := (RX12, TX12, 56)) hK hE hS hA hP hD rfl (mt_mem hM)) rfl rfl hl.1 rfl (lv_room (Nat.le_of_ble_eq_true rfl)) dL_law_514 ⟨(by show (1000 + 2 * ii) + 0 + 0 ≤ 600000; omega), (by show (100000 + 25 * ii) + 0 + 0 ≤ 7302250; omega)⟩) hS hA hP hD (fun r514 W2 H locs hz514 hP hD hS => ?_)
  obtain ⟨hr514, hW2⟩ := hz514
  have hP := pm_Pp List.perm_append_comm hP
  have hD := pm_Dp List.perm_append_comm hD
  refine lv_pop hx hb dL_law_517 rfl ?_
  refine lv_goto (tgt := 2459) hx hb dL_law_518 (by decide) ?_
  refine W.widen (k := 1009 + 2 * ii) (n := 100145 + 25 * ii) (by omega) (by omega) ?_
  exact hend _ _ _ W1 W2 _ _ _ _ _ _ hW1 hW2 hJ hP hD hS hl
set_option maxHeartbeats 4000000 in
set_option maxRecDepth 100000 in
theorem lw_c7 {p : Program} {e : Env} {s : State} {m : MethodId} {below : List Frame} {meth : Method} {c : Code} (l : Launch) {sb L : Nat} {xs : Nat → Int32} (hL : L ≤ 3072) (C0 : lw_At p s m meth c sb L xs) {g : va_G} {cI cJ cB cZ cL : ClassId} (hK : va_K g vwCl (tyT cI cJ cB cZ cL) s) {kA vA : Nat → Nat} (hE : ENV kA vA (fun q : Nat => s.heap.size ≤ q) s) {x y : Nat} {ii : Nat} (h6 : ii + 6 ≤ L) (hend : ∀ (H : Heap) (locs : List Loc) (ls : Array Slot) (XT M : va_W) (sw sn ki mw mn kp : Nat → Int32) (hXT : XTSt cI cJ cB cZ cL x sw sn ki XT) (hM : MSt cI cJ cB cZ cL y mw mn kp M) (hJ : JJ sw sn ki mw mn kp) (hP : va_P g vwCl (XT ++ M) H) (hD : va_D (fun q : Nat => s.heap.size ≤ q) (XT ++ M)) (hS : va_S (fun q : Nat => s.heap.size ≤ q) s.heap H locs) (hl : lv_has ls 4 [(0, .ref sb), (1, .ref x), (2, .ref y), (3, .int (nI ii))]), W p l e room_1 s m #[Value.ref sb] below meth c H locs (1009 + 2 * ii) (100145 + 25 * ii) (lw_Z below #[Value.ref sb] s) (F0 m 2459 ls [])) (H : Heap) (locs : List Loc) (ls : Array Slot) (XT M : va_W) (sw sn ki mw mn kp : Nat → Int32) (hXT : XTSt cI cJ cB cZ cL x sw sn ki XT) (hM : MSt cI cJ cB cZ cL y mw mn kp M) (hJ : JJ sw sn ki mw mn kp) (hP : va_P g vwCl (XT ++ M) H) (hD : va_D (fun q : Nat => s.heap.size ≤ q) (XT ++ M)) (hS : va_S (fun q : Nat => s.heap.size ≤ q) s.heap H locs) (hl : lv_has ls 4 [(0, .ref sb), (1, .ref x), (2, .ref y), (3, .int (nI ii))]) : W p l e room_1 s m #[Value.ref sb] below meth c H locs (1000 + 2 * ii) (100000 + 25 * ii) (lw_Z below #[Value.ref sb] s) (F0 m 521 ls []) := by
  obtain ⟨hx, hb, hr, hml, hown, hts0, hX, hbl, hlocks, hgv⟩ := id C0
  have hts : ∀ w ∈ v_L_law, w.before #[Value.ref sb] s = true := fun w h => hts0 w (in_v_L_law w h)
  have hown : s.vm.findClass RL = some m.cls := hown
  have hA : ∀ q : Nat, s.heap.size ≤ q → (fun q : Nat => s.heap.size ≤ q) q := fun _ h => h
  have hbA : ¬ (fun q : Nat => s.heap.size ≤ q) sb := Nat.not_le.mpr hbl
  refine lv_aload_n hx hb dL_law_521 rfl (lv_at hl 1 rfl) ?_
  refine lv_aload_n hx hb dL_law_522 rfl (lv_at hl 0 rfl) ?_
  refine lv_iload_n hx hb dL_law_523 rfl (lv_at hl 3 rfl) ?_
  refine lv_iconst (v := 1) hx hb dL_law_524 (by decide) ?_
  refine lv_iadd hx hb dL_law_525 ?_
  refine va_sld hx hb hX hbl hbA hS (lw_ix 1 h6 hL (by decide)) dL_law_526 ?_
  refine lv_topi (nm_r (e' := xs (nI ii + 1).toNatClampNeg) rfl ?_)
  refine lv_aload_n hx hb dL_law_527 rfl (lv_at hl 0 rfl) ?_
  refine lv_iload_n hx hb dL_law_528 rfl (lv_at hl 3 rfl) ?_
  refine lv_iconst (v := 2) hx hb dL_law_529 (by decide) ?_
  refine lv_iadd hx hb dL_law_530 ?_
  refine va_sld hx hb hX hbl hbA hS (lw_ix 2 h6 hL (by decide)) dL_law_531 ?_
  refine lv_topi (nm_r (e' := xs (nI ii + 2).toNatClampNeg) rfl ?_)
  refine lv_aload_n hx hb dL_law_532 rfl (lv_at hl 0 rfl) ?_
  refine lv_iload_n hx hb dL_law_533 rfl (lv_at hl 3 rfl) ?_
  refine lv_iconst (v := 3) hx hb dL_law_534 (by decide) ?_
  refine lv_iadd hx hb dL_law_535 ?_
  refine va_sld hx hb hX hbl hbA hS (lw_ix 3 h6 hL (by decide)) dL_law_536 ?_
  refine lv_topi (nm_r (e' := xs (nI ii + 3).toNatClampNeg) rfl ?_)
  refine lc_i (X := XT) (Rr := M) (va_runV (As := [.int (xs (nI ii + 1).toNatClampNeg), .int (xs (nI ii + 2).toNatClampNeg), .int (xs (nI ii + 3).toNatClampNeg)]) (rest := []) ⟨hx, hb, hml, hown, hts⟩ (lift_i (fun im X hX => cx_does l g cI cJ cB cZ cL kA vA x im X H.size hX (xs (nI ii + 1).toNatClampNeg) (xs (nI ii + 2).toNatClampNeg) (xs (nI ii + 3).toNatClampNeg)) hXT) (cwV 3 hts (goodIn_app (g_4 (List.mem_cons_of_mem _ (List.mem_append_left _ (List.mem_of_getElem? (i := 44) rfl))) (List.mem_cons_of_mem _ (List.mem_append_left _ (List.mem_of_getElem? (i := 45) rfl))) (List.mem_cons_of_mem _ (List.mem_append_left _ (List.mem_of_getElem? (i := 46) rfl))) (List.mem_cons_of_mem _ (List.mem_append_left _ (List.mem_of_getElem? (i := 3) rfl))) (by decide +kernel)) (goodIn_sub ml_v_fX11_does good_v_fX11_does)) rfl rfl rfl (by decide +kernel) ⟨Nat.le_of_ble_eq_true rfl, Nat.le_of_ble_eq_true rfl⟩) (lc_pre (ci := 10) (q := (RX11, TX11, 11)) hK hE hS hA hP hD rfl (xt_mem hXT)) rfl rfl hl.1 rfl (lv_room (Nat.le_of_ble_eq_true rfl)) dL_law_537 ⟨(by show (1000 + 2 * ii) + 0 ≤ 600000; omega), (by show (100000 + 25 * ii) + 0 ≤ 7302250; omega)⟩) hS hA hP hD (fun r537 W1 H locs hz537 hP hD hS => ?_)
  obtain ⟨hr537, hW1⟩ := hz537
  refine lv_pop hx hb dL_law_540 rfl ?_
  refine lv_aload_n hx hb dL_law_541 rfl (lv_at hl 2 rfl) ?_
  refine lv_aload_n hx hb dL_law_542 rfl (lv_at hl 0 rfl) ?_
  refine lv_iload_n hx hb dL_law_543 rfl (lv_at hl 3 rfl) ?_
  refine lv_iconst (v := 1) hx hb dL_law_544 (by decide) ?_
  refine lv_iadd hx hb dL_law_545 ?_
  refine va_sld hx hb hX hbl hbA hS (lw_ix 1 h6 hL (by decide)) dL_law_546 ?_
  refine lv_topi (nm_r (e' := xs (nI ii + 1).toNatClampNeg) rfl ?_)
  refine lv_aload_n hx hb dL_law_547 rfl (lv_at hl 0 rfl) ?_
  refine lv_iload_n hx hb dL_law_548 rfl (lv_at hl 3 rfl) ?_
  refine lv_iconst (v := 2) hx hb dL_law_549 (by decide) ?_
  refine lv_iadd hx hb dL_law_550 ?_
  refine va_sld hx hb hX hbl hbA hS (lw_ix 2 h6 hL (by decide)) dL_law_551 ?_
  refine lv_topi (nm_r (e' := xs (nI ii + 2).toNatClampNeg) rfl ?_)
  refine lv_aload_n hx hb dL_law_552 rfl (lv_at hl 0 rfl) ?_
  refine lv_iload_n hx hb dL_law_553 rfl (lv_at hl 3 rfl) ?_
  refine lv_iconst (v := 3) hx hb dL_law_554 (by decide) ?_
  refine lv_iadd hx hb dL_law_555 ?_
  refine va_sld hx hb hX hbl hbA hS (lw_ix 3 h6 hL (by decide)) dL_law_556 ?_
  refine lv_topi (nm_r (e' := xs (nI ii + 3).toNatClampNeg) rfl ?_)
  have hP := pm_Pp List.perm_append_comm hP
  have hD := pm_Dp List.perm_append_comm hD
  refine lc_i (X := M) (Rr := W1) (va_runV (As := [.int (xs (nI ii + 1).toNatClampNeg), .int (xs (nI ii + 2).toNatClampNeg), .int (xs (nI ii + 3).toNatClampNeg)]) (rest := []) ⟨hx, hb, hml, hown, hts⟩ (cm_does l g cI cJ cB cZ cL kA vA y M H.size hM (xs (nI ii + 1).toNatClampNeg) (xs (nI ii + 2).toNatClampNeg) (xs (nI ii + 3).toNatClampNeg)) (cwV 3 hts (goodIn_app (g_4 (List.mem_cons_of_mem _ (List.mem_append_left _ (List.mem_of_getElem? (i := 47) rfl))) (List.mem_cons_of_mem _ (List.mem_append_left _ (List.mem_of_getElem? (i := 48) rfl))) (List.mem_cons_of_mem _ (List.mem_append_left _ (List.mem_of_getElem? (i := 49) rfl))) (List.mem_cons_of_mem _ (List.mem_append_left _ (List.mem_of_getElem? (i := 7) rfl))) (by decide +kernel)) (goodIn_sub ml_v_fX12_does good_v_fX12_does)) rfl rfl rfl (by decide +kernel) ⟨Nat.le_of_ble_eq_true rfl, Nat.le_of_ble_eq_true rfl⟩) (lc_pre (ci := 11) (q := (RX12, TX12, 56)) hK hE hS hA hP hD rfl (mt_mem hM)) rfl rfl hl.1 rfl (lv_room (Nat.le_of_ble_eq_true rfl)) dL_law_557 ⟨(by show (1000 + 2 * ii) + 0 + 0 ≤ 600000; omega), (by show (100000 + 25 * ii) + 0 + 0 ≤ 7302250; omega)⟩) hS hA hP hD (fun r557 W2 H locs hz557 hP hD hS => ?_)
  obtain ⟨hr557, hW2⟩ := hz557
  have hP := pm_Pp List.perm_append_comm hP
  have hD := pm_Dp List.perm_append_comm hD
  refine lv_pop hx hb dL_law_560 rfl ?_
  refine lv_goto (tgt := 2459) hx hb dL_law_561 (by decide) ?_
  refine W.widen (k := 1009 + 2 * ii) (n := 100145 + 25 * ii) (by omega) (by omega) ?_
  exact hend _ _ _ W1 W2 _ _ _ _ _ _ hW1 hW2 hJ hP hD hS hl
set_option maxHeartbeats 4000000 in
set_option maxRecDepth 100000 in
theorem lw_c8 {p : Program} {e : Env} {s : State} {m : MethodId} {below : List Frame} {meth : Method} {c : Code} (l : Launch) {sb L : Nat} {xs : Nat → Int32} (hL : L ≤ 3072) (C0 : lw_At p s m meth c sb L xs) {g : va_G} {cI cJ cB cZ cL : ClassId} (hK : va_K g vwCl (tyT cI cJ cB cZ cL) s) {kA vA : Nat → Nat} (hE : ENV kA vA (fun q : Nat => s.heap.size ≤ q) s) {x y : Nat} {ii : Nat} (h6 : ii + 6 ≤ L) (hend : ∀ (H : Heap) (locs : List Loc) (ls : Array Slot) (XT M : va_W) (sw sn ki mw mn kp : Nat → Int32) (hXT : XTSt cI cJ cB cZ cL x sw sn ki XT) (hM : MSt cI cJ cB cZ cL y mw mn kp M) (hJ : JJ sw sn ki mw mn kp) (hP : va_P g vwCl (XT ++ M) H) (hD : va_D (fun q : Nat => s.heap.size ≤ q) (XT ++ M)) (hS : va_S (fun q : Nat => s.heap.size ≤ q) s.heap H locs) (hl : lv_has ls 4 [(0, .ref sb), (1, .ref x), (2, .ref y), (3, .int (nI ii))]), W p l e room_1 s m #[Value.ref sb] below meth c H locs (1009 + 2 * ii) (100145 + 25 * ii) (lw_Z below #[Value.ref sb] s) (F0 m 2459 ls [])) (H : Heap) (locs : List Loc) (ls : Array Slot) (XT M : va_W) (sw sn ki mw mn kp : Nat → Int32) (hXT : XTSt cI cJ cB cZ cL x sw sn ki XT) (hM : MSt cI cJ cB cZ cL y mw mn kp M) (hJ : JJ sw sn ki mw mn kp) (hP : va_P g vwCl (XT ++ M) H) (hD : va_D (fun q : Nat => s.heap.size ≤ q) (XT ++ M)) (hS : va_S (fun q : Nat => s.heap.size ≤ q) s.heap H locs) (hl : lv_has ls 4 [(0, .ref sb), (1, .ref x), (2, .ref y), (3, .int (nI ii))]) : W p l e room_1 s m #[Value.ref sb] below meth c H locs (1000 + 2 * ii) (100000 + 25 * ii) (lw_Z below #[Value.ref sb] s) (F0 m 564 ls []) := by
  obtain ⟨hx, hb, hr, hml, hown, hts0, hX, hbl, hlocks, hgv⟩ := id C0
  have hts : ∀ w ∈ v_L_law, w.before #[Value.ref sb] s = true := fun w h => hts0 w (in_v_L_law w h)
  have hown : s.vm.findClass RL = some m.cls := hown
  have hA : ∀ q : Nat, s.heap.size ≤ q → (fun q : Nat => s.heap.size ≤ q) q := fun _ h => h
  have hbA : ¬ (fun q : Nat => s.heap.size ≤ q) sb := Nat.not_le.mpr hbl
  refine lv_aload_n hx hb dL_law_564 rfl (lv_at hl 1 rfl) ?_
  refine lv_aload_n hx hb dL_law_565 rfl (lv_at hl 0 rfl) ?_
  refine lv_iload_n hx hb dL_law_566 rfl (lv_at hl 3 rfl) ?_
  refine lv_iconst (v := 1) hx hb dL_law_567 (by decide) ?_
  refine lv_iadd hx hb dL_law_568 ?_
  refine va_sld hx hb hX hbl hbA hS (lw_ix 1 h6 hL (by decide)) dL_law_569 ?_
  refine lv_topi (nm_r (e' := xs (nI ii + 1).toNatClampNeg) rfl ?_)
  refine lv_aload_n hx hb dL_law_570 rfl (lv_at hl 0 rfl) ?_
  refine lv_iload_n hx hb dL_law_571 rfl (lv_at hl 3 rfl) ?_
  refine lv_iconst (v := 2) hx hb dL_law_572 (by decide) ?_
  refine lv_iadd hx hb dL_law_573 ?_
  refine va_sld hx hb hX hbl hbA hS (lw_ix 2 h6 hL (by decide)) dL_law_574 ?_
  refine lv_topi (nm_r (e' := xs (nI ii + 2).toNatClampNeg) rfl ?_)
  refine lv_aload_n hx hb dL_law_575 rfl (lv_at hl 0 rfl) ?_
  refine lv_iload_n hx hb dL_law_576 rfl (lv_at hl 3 rfl) ?_
  refine lv_iconst (v := 3) hx hb dL_law_577 (by decide) ?_
  refine lv_iadd hx hb dL_law_578 ?_
  refine va_sld hx hb hX hbl hbA hS (lw_ix 3 h6 hL (by decide)) dL_law_579 ?_
  refine lv_topi (nm_r (e' := xs (nI ii + 3).toNatClampNeg) rfl ?_)
  refine lc_i (X := XT) (Rr := M) (va_runV (As := [.int (xs (nI ii + 1).toNatClampNeg), .int (xs (nI ii + 2).toNatClampNeg), .int (xs (nI ii + 3).toNatClampNeg)]) (rest := []) ⟨hx, hb, hml, hown, hts⟩ (lift_i (fun im X hX => cx_X11_sends l g cI cJ cB cZ cL kA vA x im X H.size hX (xs (nI ii + 1).toNatClampNeg) (xs (nI ii + 2).toNatClampNeg) (xs (nI ii + 3).toNatClampNeg)) hXT) (cwV 3 hts (goodIn_app (g_4 (List.mem_cons_of_mem _ (List.mem_append_left _ (List.mem_of_getElem? (i := 50) rfl))) (List.mem_cons_of_mem _ (List.mem_append_left _ (List.mem_of_getElem? (i := 51) rfl))) (List.mem_cons_of_mem _ (List.mem_append_left _ (List.mem_of_getElem? (i := 52) rfl))) (List.mem_cons_of_mem _ (List.mem_append_left _ (List.mem_of_getElem? (i := 3) rfl))) (by decide +kernel)) (goodIn_sub ml_v_X11_sends good_v_X11_sends)) rfl rfl rfl (by decide +kernel) ⟨Nat.le_of_ble_eq_true rfl, Nat.le_of_ble_eq_true rfl⟩) (lc_pre (ci := 10) (q := (RX11, TX11, 11)) hK hE hS hA hP hD rfl (xt_mem hXT)) rfl rfl hl.1 rfl (lv_room (Nat.le_of_ble_eq_true rfl)) dL_law_580 ⟨(by show (1000 + 2 * ii) + 0 ≤ 600000; omega), (by show (100000 + 25 * ii) + 0 ≤ 7302250; omega)⟩) hS hA hP hD (fun r580 W1 H locs hz580 hP hD hS => ?_)
  obtain ⟨hr580, hW1⟩ := hz580
  refine lv_pop hx hb dL_law_583 rfl ?_
  refine lv_aload_n hx hb dL_law_584 rfl (lv_at hl 2 rfl) ?_
  refine lv_aload_n hx hb dL_law_585 rfl (lv_at hl 0 rfl) ?_
  refine lv_iload_n hx hb dL_law_586 rfl (lv_at hl 3 rfl) ?_
  refine lv_iconst (v := 1) hx hb dL_law_587 (by decide) ?_
  refine lv_iadd hx hb dL_law_588 ?_
  refine va_sld hx hb hX hbl hbA hS (lw_ix 1 h6 hL (by decide)) dL_law_589 ?_
  refine lv_topi (nm_r (e' := xs (nI ii + 1).toNatClampNeg) rfl ?_)
  refine lv_aload_n hx hb dL_law_590 rfl (lv_at hl 0 rfl) ?_
  refine lv_iload_n hx hb dL_law_591 rfl (lv_at hl 3 rfl) ?_
  refine lv_iconst (v := 2) hx hb dL_law_592 (by decide) ?_
  refine lv_iadd hx hb dL_law_593 ?_
  refine va_sld hx hb hX hbl hbA hS (lw_ix 2 h6 hL (by decide)) dL_law_594 ?_
  refine lv_topi (nm_r (e' := xs (nI ii + 2).toNatClampNeg) rfl ?_)
  refine lv_aload_n hx hb dL_law_595 rfl (lv_at hl 0 rfl) ?_
  refine lv_iload_n hx hb dL_law_596 rfl (lv_at hl 3 rfl) ?_
  refine lv_iconst (v := 3) hx hb dL_law_597 (by decide) ?_
  refine lv_iadd hx hb dL_law_598 ?_
  refine va_sld hx hb hX hbl hbA hS (lw_ix 3 h6 hL (by decide)) dL_law_599 ?_
  refine lv_topi (nm_r (e' := xs (nI ii + 3).toNatClampNeg) rfl ?_)
  have hP := pm_Pp List.perm_append_comm hP
  have hD := pm_Dp List.perm_append_comm hD
  refine lc_i (X := M) (Rr := W1) (va_runV (As := [.int (xs (nI ii + 1).toNatClampNeg), .int (xs (nI ii + 2).toNatClampNeg), .int (xs (nI ii + 3).toNatClampNeg)]) (rest := []) ⟨hx, hb, hml, hown, hts⟩ (cm_X12_sends l g cI cJ cB cZ cL kA vA y M H.size hM (xs (nI ii + 1).toNatClampNeg) (xs (nI ii + 2).toNatClampNeg) (xs (nI ii + 3).toNatClampNeg)) (cwV 3 hts (goodIn_app (g_4 (List.mem_cons_of_mem _ (List.mem_append_left _ (List.mem_of_getElem? (i := 53) rfl))) (List.mem_cons_of_mem _ (List.mem_append_left _ (List.mem_of_getElem? (i := 54) rfl))) (List.mem_cons_of_mem _ (List.mem_append_left _ (List.mem_of_getElem? (i := 55) rfl))) (List.mem_cons_of_mem _ (List.mem_append_left _ (List.mem_of_getElem? (i := 7) rfl))) (by decide +kernel)) (goodIn_sub ml_v_X12_sends good_v_X12_sends)) rfl rfl rfl (by decide +kernel) ⟨Nat.le_of_ble_eq_true rfl, Nat.le_of_ble_eq_true rfl⟩) (lc_pre (ci := 11) (q := (RX12, TX12, 56)) hK hE hS hA hP hD rfl (mt_mem hM)) rfl rfl hl.1 rfl (lv_room (Nat.le_of_ble_eq_true rfl)) dL_law_600 ⟨(by show (1000 + 2 * ii) + 0 + 0 ≤ 600000; omega), (by show (100000 + 25 * ii) + 0 + 0 ≤ 7302250; omega)⟩) hS hA hP hD (fun r600 W2 H locs hz600 hP hD hS => ?_)
  obtain ⟨hr600, hW2⟩ := hz600
  have hP := pm_Pp List.perm_append_comm hP
  have hD := pm_Dp List.perm_append_comm hD
  refine lv_pop hx hb dL_law_603 rfl ?_
  refine lv_goto (tgt := 2459) hx hb dL_law_604 (by decide) ?_
  refine W.widen (k := 1009 + 2 * ii) (n := 100145 + 25 * ii) (by omega) (by omega) ?_
  exact hend _ _ _ W1 W2 _ _ _ _ _ _ hW1 hW2 hJ hP hD hS hl
set_option maxHeartbeats 4000000 in
set_option maxRecDepth 100000 in
theorem lw_c9 {p : Program} {e : Env} {s : State} {m : MethodId} {below : List Frame} {meth : Method} {c : Code} (l : Launch) {sb L : Nat} {xs : Nat → Int32} (hL : L ≤ 3072) (C0 : lw_At p s m meth c sb L xs) {g : va_G} {cI cJ cB cZ cL : ClassId} (hK : va_K g vwCl (tyT cI cJ cB cZ cL) s) {kA vA : Nat → Nat} (hE : ENV kA vA (fun q : Nat => s.heap.size ≤ q) s) {x y : Nat} {ii : Nat} (h6 : ii + 6 ≤ L) (hend : ∀ (H : Heap) (locs : List Loc) (ls : Array Slot) (XT M : va_W) (sw sn ki mw mn kp : Nat → Int32) (hXT : XTSt cI cJ cB cZ cL x sw sn ki XT) (hM : MSt cI cJ cB cZ cL y mw mn kp M) (hJ : JJ sw sn ki mw mn kp) (hP : va_P g vwCl (XT ++ M) H) (hD : va_D (fun q : Nat => s.heap.size ≤ q) (XT ++ M)) (hS : va_S (fun q : Nat => s.heap.size ≤ q) s.heap H locs) (hl : lv_has ls 4 [(0, .ref sb), (1, .ref x), (2, .ref y), (3, .int (nI ii))]), W p l e room_1 s m #[Value.ref sb] below meth c H locs (1009 + 2 * ii) (100145 + 25 * ii) (lw_Z below #[Value.ref sb] s) (F0 m 2459 ls [])) (H : Heap) (locs : List Loc) (ls : Array Slot) (XT M : va_W) (sw sn ki mw mn kp : Nat → Int32) (hXT : XTSt cI cJ cB cZ cL x sw sn ki XT) (hM : MSt cI cJ cB cZ cL y mw mn kp M) (hJ : JJ sw sn ki mw mn kp) (hP : va_P g vwCl (XT ++ M) H) (hD : va_D (fun q : Nat => s.heap.size ≤ q) (XT ++ M)) (hS : va_S (fun q : Nat => s.heap.size ≤ q) s.heap H locs) (hl : lv_has ls 4 [(0, .ref sb), (1, .ref x), (2, .ref y), (3, .int (nI ii))]) : W p l e room_1 s m #[Value.ref sb] below meth c H locs (1000 + 2 * ii) (100000 + 25 * ii) (lw_Z below #[Value.ref sb] s) (F0 m 607 ls []) := by
  obtain ⟨hx, hb, hr, hml, hown, hts0, hX, hbl, hlocks, hgv⟩ := id C0
  have hts : ∀ w ∈ v_L_law, w.before #[Value.ref sb] s = true := fun w h => hts0 w (in_v_L_law w h)
  have hown : s.vm.findClass RL = some m.cls := hown
  have hA : ∀ q : Nat, s.heap.size ≤ q → (fun q : Nat => s.heap.size ≤ q) q := fun _ h => h
  have hbA : ¬ (fun q : Nat => s.heap.size ≤ q) sb := Nat.not_le.mpr hbl
  refine lv_aload_n hx hb dL_law_607 rfl (lv_at hl 1 rfl) ?_
  refine lv_aload_n hx hb dL_law_608 rfl (lv_at hl 0 rfl) ?_
  refine lv_iload_n hx hb dL_law_609 rfl (lv_at hl 3 rfl) ?_
  refine lv_iconst (v := 1) hx hb dL_law_610 (by decide) ?_
  refine lv_iadd hx hb dL_law_611 ?_
  refine va_sld hx hb hX hbl hbA hS (lw_ix 1 h6 hL (by decide)) dL_law_612 ?_
  refine lv_topi (nm_r (e' := xs (nI ii + 1).toNatClampNeg) rfl ?_)
  refine lv_aload_n hx hb dL_law_613 rfl (lv_at hl 0 rfl) ?_
  refine lv_iload_n hx hb dL_law_614 rfl (lv_at hl 3 rfl) ?_
  refine lv_iconst (v := 2) hx hb dL_law_615 (by decide) ?_
  refine lv_iadd hx hb dL_law_616 ?_
  refine va_sld hx hb hX hbl hbA hS (lw_ix 2 h6 hL (by decide)) dL_law_617 ?_
  refine lv_topi (nm_r (e' := xs (nI ii + 2).toNatClampNeg) rfl ?_)
  refine lv_aload_n hx hb dL_law_618 rfl (lv_at hl 0 rfl) ?_
  refine lv_iload_n hx hb dL_law_619 rfl (lv_at hl 3 rfl) ?_
  refine lv_iconst (v := 3) hx hb dL_law_620 (by decide) ?_
  refine lv_iadd hx hb dL_law_621 ?_
  refine va_sld hx hb hX hbl hbA hS (lw_ix 3 h6 hL (by decide)) dL_law_622 ?_
  refine lv_topi (nm_r (e' := xs (nI ii + 3).toNatClampNeg) rfl ?_)
  refine lc_i (X := XT) (Rr := M) (va_runV (As := [.int (xs (nI ii + 1).toNatClampNeg), .int (xs (nI ii + 2).toNatClampNeg), .int (xs (nI ii + 3).toNatClampNeg)]) (rest := []) ⟨hx, hb, hml, hown, hts⟩ (lift_i (fun im X hX => cx_X11_got l g cI cJ cB cZ cL kA vA x im X H.size hX (xs (nI ii + 1).toNatClampNeg) (xs (nI ii + 2).toNatClampNeg) (xs (nI ii + 3).toNatClampNeg)) hXT) (cwV 3 hts (goodIn_app (g_4 (List.mem_cons_of_mem _ (List.mem_append_left _ (List.mem_of_getElem? (i := 56) rfl))) (List.mem_cons_of_mem _ (List.mem_append_left _ (List.mem_of_getElem? (i := 57) rfl))) (List.mem_cons_of_mem _ (List.mem_append_left _ (List.mem_of_getElem? (i := 58) rfl))) (List.mem_cons_of_mem _ (List.mem_append_left _ (List.mem_of_getElem? (i := 3) rfl))) (by decide +kernel)) (goodIn_sub ml_v_X11_got good_v_X11_got)) rfl rfl rfl (by decide +kernel) ⟨Nat.le_of_ble_eq_true rfl, Nat.le_of_ble_eq_true rfl⟩) (lc_pre (ci := 10) (q := (RX11, TX11, 11)) hK hE hS hA hP hD rfl (xt_mem hXT)) rfl rfl hl.1 rfl (lv_room (Nat.le_of_ble_eq_true rfl)) dL_law_623 ⟨(by show (1000 + 2 * ii) + 0 ≤ 600000; omega), (by show (100000 + 25 * ii) + 0 ≤ 7302250; omega)⟩) hS hA hP hD (fun r623 W1 H locs hz623 hP hD hS => ?_)
  obtain ⟨hr623, hW1⟩ := hz623
  refine lv_pop hx hb dL_law_626 rfl ?_
  refine lv_aload_n hx hb dL_law_627 rfl (lv_at hl 2 rfl) ?_
  refine lv_aload_n hx hb dL_law_628 rfl (lv_at hl 0 rfl) ?_
  refine lv_iload_n hx hb dL_law_629 rfl (lv_at hl 3 rfl) ?_
  refine lv_iconst (v := 1) hx hb dL_law_630 (by decide) ?_
  refine lv_iadd hx hb dL_law_631 ?_
  refine va_sld hx hb hX hbl hbA hS (lw_ix 1 h6 hL (by decide)) dL_law_632 ?_
  refine lv_topi (nm_r (e' := xs (nI ii + 1).toNatClampNeg) rfl ?_)
  refine lv_aload_n hx hb dL_law_633 rfl (lv_at hl 0 rfl) ?_
  refine lv_iload_n hx hb dL_law_634 rfl (lv_at hl 3 rfl) ?_
  refine lv_iconst (v := 2) hx hb dL_law_635 (by decide) ?_
  refine lv_iadd hx hb dL_law_636 ?_
  refine va_sld hx hb hX hbl hbA hS (lw_ix 2 h6 hL (by decide)) dL_law_637 ?_
  refine lv_topi (nm_r (e' := xs (nI ii + 2).toNatClampNeg) rfl ?_)
  refine lv_aload_n hx hb dL_law_638 rfl (lv_at hl 0 rfl) ?_
  refine lv_iload_n hx hb dL_law_639 rfl (lv_at hl 3 rfl) ?_
  refine lv_iconst (v := 3) hx hb dL_law_640 (by decide) ?_
  refine lv_iadd hx hb dL_law_641 ?_
  refine va_sld hx hb hX hbl hbA hS (lw_ix 3 h6 hL (by decide)) dL_law_642 ?_
  refine lv_topi (nm_r (e' := xs (nI ii + 3).toNatClampNeg) rfl ?_)
  have hP := pm_Pp List.perm_append_comm hP
  have hD := pm_Dp List.perm_append_comm hD
  refine lc_i (X := M) (Rr := W1) (va_runV (As := [.int (xs (nI ii + 1).toNatClampNeg), .int (xs (nI ii + 2).toNatClampNeg), .int (xs (nI ii + 3).toNatClampNeg)]) (rest := []) ⟨hx, hb, hml, hown, hts⟩ (cm_X12_got l g cI cJ cB cZ cL kA vA y M H.size hM (xs (nI ii + 1).toNatClampNeg) (xs (nI ii + 2).toNatClampNeg) (xs (nI ii + 3).toNatClampNeg)) (cwV 3 hts (goodIn_app (g_4 (List.mem_cons_of_mem _ (List.mem_append_left _ (List.mem_of_getElem? (i := 59) rfl))) (List.mem_cons_of_mem _ (List.mem_append_left _ (List.mem_of_getElem? (i := 60) rfl))) (List.mem_cons_of_mem _ (List.mem_append_left _ (List.mem_of_getElem? (i := 61) rfl))) (List.mem_cons_of_mem _ (List.mem_append_left _ (List.mem_of_getElem? (i := 7) rfl))) (by decide +kernel)) (goodIn_sub ml_v_X12_got good_v_X12_got)) rfl rfl rfl (by decide +kernel) ⟨Nat.le_of_ble_eq_true rfl, Nat.le_of_ble_eq_true rfl⟩) (lc_pre (ci := 11) (q := (RX12, TX12, 56)) hK hE hS hA hP hD rfl (mt_mem hM)) rfl rfl hl.1 rfl (lv_room (Nat.le_of_ble_eq_true rfl)) dL_law_643 ⟨(by show (1000 + 2 * ii) + 0 + 0 ≤ 600000; omega), (by show (100000 + 25 * ii) + 0 + 0 ≤ 7302250; omega)⟩) hS hA hP hD (fun r643 W2 H locs hz643 hP hD hS => ?_)
  obtain ⟨hr643, hW2⟩ := hz643
  have hP := pm_Pp List.perm_append_comm hP
  have hD := pm_Dp List.perm_append_comm hD
  refine lv_pop hx hb dL_law_646 rfl ?_
  refine lv_goto (tgt := 2459) hx hb dL_law_647 (by decide) ?_
  refine W.widen (k := 1009 + 2 * ii) (n := 100145 + 25 * ii) (by omega) (by omega) ?_
  exact hend _ _ _ W1 W2 _ _ _ _ _ _ hW1 hW2 hJ hP hD hS hl
set_option maxHeartbeats 4000000 in
set_option maxRecDepth 100000 in
theorem lw_c10 {p : Program} {e : Env} {s : State} {m : MethodId} {below : List Frame} {meth : Method} {c : Code} (l : Launch) {sb L : Nat} {xs : Nat → Int32} (hL : L ≤ 3072) (C0 : lw_At p s m meth c sb L xs) {g : va_G} {cI cJ cB cZ cL : ClassId} (hK : va_K g vwCl (tyT cI cJ cB cZ cL) s) {kA vA : Nat → Nat} (hE : ENV kA vA (fun q : Nat => s.heap.size ≤ q) s) {x y : Nat} {ii : Nat} (h6 : ii + 6 ≤ L) (hend : ∀ (H : Heap) (locs : List Loc) (ls : Array Slot) (XT M : va_W) (sw sn ki mw mn kp : Nat → Int32) (hXT : XTSt cI cJ cB cZ cL x sw sn ki XT) (hM : MSt cI cJ cB cZ cL y mw mn kp M) (hJ : JJ sw sn ki mw mn kp) (hP : va_P g vwCl (XT ++ M) H) (hD : va_D (fun q : Nat => s.heap.size ≤ q) (XT ++ M)) (hS : va_S (fun q : Nat => s.heap.size ≤ q) s.heap H locs) (hl : lv_has ls 4 [(0, .ref sb), (1, .ref x), (2, .ref y), (3, .int (nI ii))]), W p l e room_1 s m #[Value.ref sb] below meth c H locs (1009 + 2 * ii) (100145 + 25 * ii) (lw_Z below #[Value.ref sb] s) (F0 m 2459 ls [])) (H : Heap) (locs : List Loc) (ls : Array Slot) (XT M : va_W) (sw sn ki mw mn kp : Nat → Int32) (hXT : XTSt cI cJ cB cZ cL x sw sn ki XT) (hM : MSt cI cJ cB cZ cL y mw mn kp M) (hJ : JJ sw sn ki mw mn kp) (hP : va_P g vwCl (XT ++ M) H) (hD : va_D (fun q : Nat => s.heap.size ≤ q) (XT ++ M)) (hS : va_S (fun q : Nat => s.heap.size ≤ q) s.heap H locs) (hl : lv_has ls 4 [(0, .ref sb), (1, .ref x), (2, .ref y), (3, .int (nI ii))]) : W p l e room_1 s m #[Value.ref sb] below meth c H locs (1000 + 2 * ii) (100000 + 25 * ii) (lw_Z below #[Value.ref sb] s) (F0 m 650 ls []) := by
  obtain ⟨hx, hb, hr, hml, hown, hts0, hX, hbl, hlocks, hgv⟩ := id C0
  have hts : ∀ w ∈ v_L_law, w.before #[Value.ref sb] s = true := fun w h => hts0 w (in_v_L_law w h)
  have hown : s.vm.findClass RL = some m.cls := hown
  have hA : ∀ q : Nat, s.heap.size ≤ q → (fun q : Nat => s.heap.size ≤ q) q := fun _ h => h
  have hbA : ¬ (fun q : Nat => s.heap.size ≤ q) sb := Nat.not_le.mpr hbl
  refine lv_aload_n hx hb dL_law_650 rfl (lv_at hl 1 rfl) ?_
  refine lv_aload_n hx hb dL_law_651 rfl (lv_at hl 0 rfl) ?_
  refine lv_iload_n hx hb dL_law_652 rfl (lv_at hl 3 rfl) ?_
  refine lv_iconst (v := 1) hx hb dL_law_653 (by decide) ?_
  refine lv_iadd hx hb dL_law_654 ?_
  refine va_sld hx hb hX hbl hbA hS (lw_ix 1 h6 hL (by decide)) dL_law_655 ?_
  refine lv_topi (nm_r (e' := xs (nI ii + 1).toNatClampNeg) rfl ?_)
  refine lv_aload_n hx hb dL_law_656 rfl (lv_at hl 0 rfl) ?_
  refine lv_iload_n hx hb dL_law_657 rfl (lv_at hl 3 rfl) ?_
  refine lv_iconst (v := 2) hx hb dL_law_658 (by decide) ?_
  refine lv_iadd hx hb dL_law_659 ?_
  refine va_sld hx hb hX hbl hbA hS (lw_ix 2 h6 hL (by decide)) dL_law_660 ?_
  refine lv_topi (nm_r (e' := xs (nI ii + 2).toNatClampNeg) rfl ?_)
  refine lc_i (X := XT) (Rr := M) (va_runV (As := [.int (xs (nI ii + 1).toNatClampNeg), .int (xs (nI ii + 2).toNatClampNeg)]) (rest := []) ⟨hx, hb, hml, hown, hts⟩ (lift_i (fun im X hX => cx_X11_state l g cI cJ cB cZ cL kA vA x im X H.size hX (xs (nI ii + 1).toNatClampNeg) (xs (nI ii + 2).toNatClampNeg)) hXT) (cwV 2 hts (goodIn_app (g_4 (List.mem_cons_of_mem _ (List.mem_append_left _ (List.mem_of_getElem? (i := 62) rfl))) (List.mem_cons_of_mem _ (List.mem_append_left _ (List.mem_of_getElem? (i := 63) rfl))) (List.mem_cons_of_mem _ (List.mem_append_left _ (List.mem_of_getElem? (i := 64) rfl))) (List.mem_cons_of_mem _ (List.mem_append_left _ (List.mem_of_getElem? (i := 3) rfl))) (by decide +kernel)) (goodIn_sub ml_v_X11_state good_v_X11_state)) rfl rfl rfl (by decide +kernel) ⟨Nat.le_of_ble_eq_true rfl, Nat.le_of_ble_eq_true rfl⟩) (lc_pre (ci := 10) (q := (RX11, TX11, 11)) hK hE hS hA hP hD rfl (xt_mem hXT)) rfl rfl hl.1 rfl (lv_room (Nat.le_of_ble_eq_true rfl)) dL_law_661 ⟨(by show (1000 + 2 * ii) + 0 ≤ 600000; omega), (by show (100000 + 25 * ii) + 0 ≤ 7302250; omega)⟩) hS hA hP hD (fun r661 W1 H locs hz661 hP hD hS => ?_)
  obtain ⟨hr661, hW1⟩ := hz661
  refine lv_pop hx hb dL_law_664 rfl ?_
  refine lv_aload_n hx hb dL_law_665 rfl (lv_at hl 2 rfl) ?_
  refine lv_aload_n hx hb dL_law_666 rfl (lv_at hl 0 rfl) ?_
  refine lv_iload_n hx hb dL_law_667 rfl (lv_at hl 3 rfl) ?_
  refine lv_iconst (v := 1) hx hb dL_law_668 (by decide) ?_
  refine lv_iadd hx hb dL_law_669 ?_
  refine va_sld hx hb hX hbl hbA hS (lw_ix 1 h6 hL (by decide)) dL_law_670 ?_
  refine lv_topi (nm_r (e' := xs (nI ii + 1).toNatClampNeg) rfl ?_)
  refine lv_aload_n hx hb dL_law_671 rfl (lv_at hl 0 rfl) ?_
  refine lv_iload_n hx hb dL_law_672 rfl (lv_at hl 3 rfl) ?_
  refine lv_iconst (v := 2) hx hb dL_law_673 (by decide) ?_
  refine lv_iadd hx hb dL_law_674 ?_
  refine va_sld hx hb hX hbl hbA hS (lw_ix 2 h6 hL (by decide)) dL_law_675 ?_
  refine lv_topi (nm_r (e' := xs (nI ii + 2).toNatClampNeg) rfl ?_)
  have hP := pm_Pp List.perm_append_comm hP
  have hD := pm_Dp List.perm_append_comm hD
  refine lc_i (X := M) (Rr := W1) (va_runV (As := [.int (xs (nI ii + 1).toNatClampNeg), .int (xs (nI ii + 2).toNatClampNeg)]) (rest := []) ⟨hx, hb, hml, hown, hts⟩ (cm_X12_state l g cI cJ cB cZ cL kA vA y M H.size hM (xs (nI ii + 1).toNatClampNeg) (xs (nI ii + 2).toNatClampNeg)) (cwV 2 hts (goodIn_app (g_4 (List.mem_cons_of_mem _ (List.mem_append_left _ (List.mem_of_getElem? (i := 65) rfl))) (List.mem_cons_of_mem _ (List.mem_append_left _ (List.mem_of_getElem? (i := 66) rfl))) (List.mem_cons_of_mem _ (List.mem_append_left _ (List.mem_of_getElem? (i := 67) rfl))) (List.mem_cons_of_mem _ (List.mem_append_left _ (List.mem_of_getElem? (i := 7) rfl))) (by decide +kernel)) (goodIn_sub ml_v_X12_state good_v_X12_state)) rfl rfl rfl (by decide +kernel) ⟨Nat.le_of_ble_eq_true rfl, Nat.le_of_ble_eq_true rfl⟩) (lc_pre (ci := 11) (q := (RX12, TX12, 56)) hK hE hS hA hP hD rfl (mt_mem hM)) rfl rfl hl.1 rfl (lv_room (Nat.le_of_ble_eq_true rfl)) dL_law_676 ⟨(by show (1000 + 2 * ii) + 0 + 0 ≤ 600000; omega), (by show (100000 + 25 * ii) + 0 + 0 ≤ 7302250; omega)⟩) hS hA hP hD (fun r676 W2 H locs hz676 hP hD hS => ?_)
  obtain ⟨hr676, hW2⟩ := hz676
  have hP := pm_Pp List.perm_append_comm hP
  have hD := pm_Dp List.perm_append_comm hD
  refine lv_pop hx hb dL_law_679 rfl ?_
  refine lv_goto (tgt := 2459) hx hb dL_law_680 (by decide) ?_
  refine W.widen (k := 1009 + 2 * ii) (n := 100145 + 25 * ii) (by omega) (by omega) ?_
  exact hend _ _ _ W1 W2 _ _ _ _ _ _ hW1 hW2 hJ hP hD hS hl
set_option maxHeartbeats 4000000 in
set_option maxRecDepth 100000 in
theorem lw_c11 {p : Program} {e : Env} {s : State} {m : MethodId} {below : List Frame} {meth : Method} {c : Code} (l : Launch) {sb L : Nat} {xs : Nat → Int32} (hL : L ≤ 3072) (C0 : lw_At p s m meth c sb L xs) {g : va_G} {cI cJ cB cZ cL : ClassId} (hK : va_K g vwCl (tyT cI cJ cB cZ cL) s) {kA vA : Nat → Nat} (hE : ENV kA vA (fun q : Nat => s.heap.size ≤ q) s) {x y : Nat} {ii : Nat} (h6 : ii + 6 ≤ L) (hend : ∀ (H : Heap) (locs : List Loc) (ls : Array Slot) (XT M : va_W) (sw sn ki mw mn kp : Nat → Int32) (hXT : XTSt cI cJ cB cZ cL x sw sn ki XT) (hM : MSt cI cJ cB cZ cL y mw mn kp M) (hJ : JJ sw sn ki mw mn kp) (hP : va_P g vwCl (XT ++ M) H) (hD : va_D (fun q : Nat => s.heap.size ≤ q) (XT ++ M)) (hS : va_S (fun q : Nat => s.heap.size ≤ q) s.heap H locs) (hl : lv_has ls 4 [(0, .ref sb), (1, .ref x), (2, .ref y), (3, .int (nI ii))]), W p l e room_1 s m #[Value.ref sb] below meth c H locs (1009 + 2 * ii) (100145 + 25 * ii) (lw_Z below #[Value.ref sb] s) (F0 m 2459 ls [])) (H : Heap) (locs : List Loc) (ls : Array Slot) (XT M : va_W) (sw sn ki mw mn kp : Nat → Int32) (hXT : XTSt cI cJ cB cZ cL x sw sn ki XT) (hM : MSt cI cJ cB cZ cL y mw mn kp M) (hJ : JJ sw sn ki mw mn kp) (hP : va_P g vwCl (XT ++ M) H) (hD : va_D (fun q : Nat => s.heap.size ≤ q) (XT ++ M)) (hS : va_S (fun q : Nat => s.heap.size ≤ q) s.heap H locs) (hl : lv_has ls 4 [(0, .ref sb), (1, .ref x), (2, .ref y), (3, .int (nI ii))]) : W p l e room_1 s m #[Value.ref sb] below meth c H locs (1000 + 2 * ii) (100000 + 25 * ii) (lw_Z below #[Value.ref sb] s) (F0 m 683 ls []) := by
  obtain ⟨hx, hb, hr, hml, hown, hts0, hX, hbl, hlocks, hgv⟩ := id C0
  have hts : ∀ w ∈ v_L_law, w.before #[Value.ref sb] s = true := fun w h => hts0 w (in_v_L_law w h)
  have hown : s.vm.findClass RL = some m.cls := hown
  have hA : ∀ q : Nat, s.heap.size ≤ q → (fun q : Nat => s.heap.size ≤ q) q := fun _ h => h
  have hbA : ¬ (fun q : Nat => s.heap.size ≤ q) sb := Nat.not_le.mpr hbl
  refine lv_aload_n hx hb dL_law_683 rfl (lv_at hl 1 rfl) ?_
  refine lv_aload_n hx hb dL_law_684 rfl (lv_at hl 0 rfl) ?_
  refine lv_iload_n hx hb dL_law_685 rfl (lv_at hl 3 rfl) ?_
  refine lv_iconst (v := 1) hx hb dL_law_686 (by decide) ?_
  refine lv_iadd hx hb dL_law_687 ?_
  refine va_sld hx hb hX hbl hbA hS (lw_ix 1 h6 hL (by decide)) dL_law_688 ?_
  refine lv_topi (nm_r (e' := xs (nI ii + 1).toNatClampNeg) rfl ?_)
  refine lv_aload_n hx hb dL_law_689 rfl (lv_at hl 0 rfl) ?_
  refine lv_iload_n hx hb dL_law_690 rfl (lv_at hl 3 rfl) ?_
  refine lv_iconst (v := 2) hx hb dL_law_691 (by decide) ?_
  refine lv_iadd hx hb dL_law_692 ?_
  refine va_sld hx hb hX hbl hbA hS (lw_ix 2 h6 hL (by decide)) dL_law_693 ?_
  refine lv_topi (nm_r (e' := xs (nI ii + 2).toNatClampNeg) rfl ?_)
  refine lc_i (X := XT) (Rr := M) (va_runV (As := [.int (xs (nI ii + 1).toNatClampNeg), .int (xs (nI ii + 2).toNatClampNeg)]) (rest := []) ⟨hx, hb, hml, hown, hts⟩ (lift_i (fun im X hX => cx_X11_cards l g cI cJ cB cZ cL kA vA x im X H.size hX (xs (nI ii + 1).toNatClampNeg) (xs (nI ii + 2).toNatClampNeg)) hXT) (cwV 2 hts (goodIn_app (g_4 (List.mem_cons_of_mem _ (List.mem_append_left _ (List.mem_of_getElem? (i := 68) rfl))) (List.mem_cons_of_mem _ (List.mem_append_left _ (List.mem_of_getElem? (i := 69) rfl))) (List.mem_cons_of_mem _ (List.mem_append_left _ (List.mem_of_getElem? (i := 70) rfl))) (List.mem_cons_of_mem _ (List.mem_append_left _ (List.mem_of_getElem? (i := 3) rfl))) (by decide +kernel)) (goodIn_sub ml_v_X11_cards good_v_X11_cards)) rfl rfl rfl (by decide +kernel) ⟨Nat.le_of_ble_eq_true rfl, Nat.le_of_ble_eq_true rfl⟩) (lc_pre (ci := 10) (q := (RX11, TX11, 11)) hK hE hS hA hP hD rfl (xt_mem hXT)) rfl rfl hl.1 rfl (lv_room (Nat.le_of_ble_eq_true rfl)) dL_law_694 ⟨(by show (1000 + 2 * ii) + 0 ≤ 600000; omega), (by show (100000 + 25 * ii) + 0 ≤ 7302250; omega)⟩) hS hA hP hD (fun r694 W1 H locs hz694 hP hD hS => ?_)
  obtain ⟨hr694, hW1⟩ := hz694
  refine lv_pop hx hb dL_law_697 rfl ?_
  refine lv_aload_n hx hb dL_law_698 rfl (lv_at hl 2 rfl) ?_
  refine lv_aload_n hx hb dL_law_699 rfl (lv_at hl 0 rfl) ?_
  refine lv_iload_n hx hb dL_law_700 rfl (lv_at hl 3 rfl) ?_
  refine lv_iconst (v := 1) hx hb dL_law_701 (by decide) ?_
  refine lv_iadd hx hb dL_law_702 ?_
  refine va_sld hx hb hX hbl hbA hS (lw_ix 1 h6 hL (by decide)) dL_law_703 ?_
  refine lv_topi (nm_r (e' := xs (nI ii + 1).toNatClampNeg) rfl ?_)
  refine lv_aload_n hx hb dL_law_704 rfl (lv_at hl 0 rfl) ?_
  refine lv_iload_n hx hb dL_law_705 rfl (lv_at hl 3 rfl) ?_
  refine lv_iconst (v := 2) hx hb dL_law_706 (by decide) ?_
  refine lv_iadd hx hb dL_law_707 ?_
  refine va_sld hx hb hX hbl hbA hS (lw_ix 2 h6 hL (by decide)) dL_law_708 ?_
  refine lv_topi (nm_r (e' := xs (nI ii + 2).toNatClampNeg) rfl ?_)
  have hP := pm_Pp List.perm_append_comm hP
  have hD := pm_Dp List.perm_append_comm hD
  refine lc_i (X := M) (Rr := W1) (va_runV (As := [.int (xs (nI ii + 1).toNatClampNeg), .int (xs (nI ii + 2).toNatClampNeg)]) (rest := []) ⟨hx, hb, hml, hown, hts⟩ (cm_X12_cards l g cI cJ cB cZ cL kA vA y M H.size hM (xs (nI ii + 1).toNatClampNeg) (xs (nI ii + 2).toNatClampNeg)) (cwV 2 hts (goodIn_app (g_4 (List.mem_cons_of_mem _ (List.mem_append_left _ (List.mem_of_getElem? (i := 71) rfl))) (List.mem_cons_of_mem _ (List.mem_append_left _ (List.mem_of_getElem? (i := 72) rfl))) (List.mem_cons_of_mem _ (List.mem_append_left _ (List.mem_of_getElem? (i := 73) rfl))) (List.mem_cons_of_mem _ (List.mem_append_left _ (List.mem_of_getElem? (i := 7) rfl))) (by decide +kernel)) (goodIn_sub ml_v_X12_cards good_v_X12_cards)) rfl rfl rfl (by decide +kernel) ⟨Nat.le_of_ble_eq_true rfl, Nat.le_of_ble_eq_true rfl⟩) (lc_pre (ci := 11) (q := (RX12, TX12, 56)) hK hE hS hA hP hD rfl (mt_mem hM)) rfl rfl hl.1 rfl (lv_room (Nat.le_of_ble_eq_true rfl)) dL_law_709 ⟨(by show (1000 + 2 * ii) + 0 + 0 ≤ 600000; omega), (by show (100000 + 25 * ii) + 0 + 0 ≤ 7302250; omega)⟩) hS hA hP hD (fun r709 W2 H locs hz709 hP hD hS => ?_)
  obtain ⟨hr709, hW2⟩ := hz709
  have hP := pm_Pp List.perm_append_comm hP
  have hD := pm_Dp List.perm_append_comm hD
  refine lv_pop hx hb dL_law_712 rfl ?_
  refine lv_goto (tgt := 2459) hx hb dL_law_713 (by decide) ?_
  refine W.widen (k := 1009 + 2 * ii) (n := 100145 + 25 * ii) (by omega) (by omega) ?_
  exact hend _ _ _ W1 W2 _ _ _ _ _ _ hW1 hW2 hJ hP hD hS hl
set_option maxHeartbeats 4000000 in
set_option maxRecDepth 100000 in
theorem lw_c12 {p : Program} {e : Env} {s : State} {m : MethodId} {below : List Frame} {meth : Method} {c : Code} (l : Launch) {sb L : Nat} {xs : Nat → Int32} (hL : L ≤ 3072) (C0 : lw_At p s m meth c sb L xs) {g : va_G} {cI cJ cB cZ cL : ClassId} (hK : va_K g vwCl (tyT cI cJ cB cZ cL) s) {kA vA : Nat → Nat} (hE : ENV kA vA (fun q : Nat => s.heap.size ≤ q) s) {x y : Nat} {ii : Nat} (h6 : ii + 6 ≤ L) (hend : ∀ (H : Heap) (locs : List Loc) (ls : Array Slot) (XT M : va_W) (sw sn ki mw mn kp : Nat → Int32) (hXT : XTSt cI cJ cB cZ cL x sw sn ki XT) (hM : MSt cI cJ cB cZ cL y mw mn kp M) (hJ : JJ sw sn ki mw mn kp) (hP : va_P g vwCl (XT ++ M) H) (hD : va_D (fun q : Nat => s.heap.size ≤ q) (XT ++ M)) (hS : va_S (fun q : Nat => s.heap.size ≤ q) s.heap H locs) (hl : lv_has ls 4 [(0, .ref sb), (1, .ref x), (2, .ref y), (3, .int (nI ii))]), W p l e room_1 s m #[Value.ref sb] below meth c H locs (1009 + 2 * ii) (100145 + 25 * ii) (lw_Z below #[Value.ref sb] s) (F0 m 2459 ls [])) (H : Heap) (locs : List Loc) (ls : Array Slot) (XT M : va_W) (sw sn ki mw mn kp : Nat → Int32) (hXT : XTSt cI cJ cB cZ cL x sw sn ki XT) (hM : MSt cI cJ cB cZ cL y mw mn kp M) (hJ : JJ sw sn ki mw mn kp) (hP : va_P g vwCl (XT ++ M) H) (hD : va_D (fun q : Nat => s.heap.size ≤ q) (XT ++ M)) (hS : va_S (fun q : Nat => s.heap.size ≤ q) s.heap H locs) (hl : lv_has ls 4 [(0, .ref sb), (1, .ref x), (2, .ref y), (3, .int (nI ii))]) : W p l e room_1 s m #[Value.ref sb] below meth c H locs (1000 + 2 * ii) (100000 + 25 * ii) (lw_Z below #[Value.ref sb] s) (F0 m 716 ls []) := by
  obtain ⟨hx, hb, hr, hml, hown, hts0, hX, hbl, hlocks, hgv⟩ := id C0
  have hts : ∀ w ∈ v_L_law, w.before #[Value.ref sb] s = true := fun w h => hts0 w (in_v_L_law w h)
  have hown : s.vm.findClass RL = some m.cls := hown
  have hA : ∀ q : Nat, s.heap.size ≤ q → (fun q : Nat => s.heap.size ≤ q) q := fun _ h => h
  have hbA : ¬ (fun q : Nat => s.heap.size ≤ q) sb := Nat.not_le.mpr hbl
  refine lv_aload_n hx hb dL_law_716 rfl (lv_at hl 1 rfl) ?_
  refine lv_aload_n hx hb dL_law_717 rfl (lv_at hl 0 rfl) ?_
  refine lv_iload_n hx hb dL_law_718 rfl (lv_at hl 3 rfl) ?_
  refine lv_iconst (v := 1) hx hb dL_law_719 (by decide) ?_
  refine lv_iadd hx hb dL_law_720 ?_
  refine va_sld hx hb hX hbl hbA hS (lw_ix 1 h6 hL (by decide)) dL_law_721 ?_
  refine lv_topi (nm_r (e' := xs (nI ii + 1).toNatClampNeg) rfl ?_)
  refine lv_aload_n hx hb dL_law_722 rfl (lv_at hl 0 rfl) ?_
  refine lv_iload_n hx hb dL_law_723 rfl (lv_at hl 3 rfl) ?_
  refine lv_iconst (v := 2) hx hb dL_law_724 (by decide) ?_
  refine lv_iadd hx hb dL_law_725 ?_
  refine va_sld hx hb hX hbl hbA hS (lw_ix 2 h6 hL (by decide)) dL_law_726 ?_
  refine lv_topi (nm_r (e' := xs (nI ii + 2).toNatClampNeg) rfl ?_)
  refine lc_i (X := XT) (Rr := M) (va_runV (As := [.int (xs (nI ii + 1).toNatClampNeg), .int (xs (nI ii + 2).toNatClampNeg)]) (rest := []) ⟨hx, hb, hml, hown, hts⟩ (lift_i (fun im X hX => cx_X11_list l g cI cJ cB cZ cL kA vA x im X H.size hX (xs (nI ii + 1).toNatClampNeg) (xs (nI ii + 2).toNatClampNeg)) hXT) (cwV 2 hts (goodIn_app (g_4 (List.mem_cons_of_mem _ (List.mem_append_left _ (List.mem_of_getElem? (i := 74) rfl))) (List.mem_cons_of_mem _ (List.mem_append_left _ (List.mem_of_getElem? (i := 75) rfl))) (List.mem_cons_of_mem _ (List.mem_append_left _ (List.mem_of_getElem? (i := 76) rfl))) (List.mem_cons_of_mem _ (List.mem_append_left _ (List.mem_of_getElem? (i := 3) rfl))) (by decide +kernel)) (goodIn_sub ml_v_X11_list good_v_X11_list)) rfl rfl rfl (by decide +kernel) ⟨Nat.le_of_ble_eq_true rfl, Nat.le_of_ble_eq_true rfl⟩) (lc_pre (ci := 10) (q := (RX11, TX11, 11)) hK hE hS hA hP hD rfl (xt_mem hXT)) rfl rfl hl.1 rfl (lv_room (Nat.le_of_ble_eq_true rfl)) dL_law_727 ⟨(by show (1000 + 2 * ii) + 0 ≤ 600000; omega), (by show (100000 + 25 * ii) + 0 ≤ 7302250; omega)⟩) hS hA hP hD (fun r727 W1 H locs hz727 hP hD hS => ?_)
  obtain ⟨hr727, hW1⟩ := hz727
  refine lv_pop hx hb dL_law_730 rfl ?_
  refine lv_aload_n hx hb dL_law_731 rfl (lv_at hl 2 rfl) ?_
  refine lv_aload_n hx hb dL_law_732 rfl (lv_at hl 0 rfl) ?_
  refine lv_iload_n hx hb dL_law_733 rfl (lv_at hl 3 rfl) ?_
  refine lv_iconst (v := 1) hx hb dL_law_734 (by decide) ?_
  refine lv_iadd hx hb dL_law_735 ?_
  refine va_sld hx hb hX hbl hbA hS (lw_ix 1 h6 hL (by decide)) dL_law_736 ?_
  refine lv_topi (nm_r (e' := xs (nI ii + 1).toNatClampNeg) rfl ?_)
  refine lv_aload_n hx hb dL_law_737 rfl (lv_at hl 0 rfl) ?_
  refine lv_iload_n hx hb dL_law_738 rfl (lv_at hl 3 rfl) ?_
  refine lv_iconst (v := 2) hx hb dL_law_739 (by decide) ?_
  refine lv_iadd hx hb dL_law_740 ?_
  refine va_sld hx hb hX hbl hbA hS (lw_ix 2 h6 hL (by decide)) dL_law_741 ?_
  refine lv_topi (nm_r (e' := xs (nI ii + 2).toNatClampNeg) rfl ?_)
  have hP := pm_Pp List.perm_append_comm hP
  have hD := pm_Dp List.perm_append_comm hD
  refine lc_i (X := M) (Rr := W1) (va_runV (As := [.int (xs (nI ii + 1).toNatClampNeg), .int (xs (nI ii + 2).toNatClampNeg)]) (rest := []) ⟨hx, hb, hml, hown, hts⟩ (cm_X12_list l g cI cJ cB cZ cL kA vA y M H.size hM (xs (nI ii + 1).toNatClampNeg) (xs (nI ii + 2).toNatClampNeg)) (cwV 2 hts (goodIn_app (g_4 (List.mem_cons_of_mem _ (List.mem_append_left _ (List.mem_of_getElem? (i := 77) rfl))) (List.mem_cons_of_mem _ (List.mem_append_left _ (List.mem_of_getElem? (i := 78) rfl))) (List.mem_cons_of_mem _ (List.mem_append_left _ (List.mem_of_getElem? (i := 79) rfl))) (List.mem_cons_of_mem _ (List.mem_append_left _ (List.mem_of_getElem? (i := 7) rfl))) (by decide +kernel)) (goodIn_sub ml_v_X12_list good_v_X12_list)) rfl rfl rfl (by decide +kernel) ⟨Nat.le_of_ble_eq_true rfl, Nat.le_of_ble_eq_true rfl⟩) (lc_pre (ci := 11) (q := (RX12, TX12, 56)) hK hE hS hA hP hD rfl (mt_mem hM)) rfl rfl hl.1 rfl (lv_room (Nat.le_of_ble_eq_true rfl)) dL_law_742 ⟨(by show (1000 + 2 * ii) + 0 + 0 ≤ 600000; omega), (by show (100000 + 25 * ii) + 0 + 0 ≤ 7302250; omega)⟩) hS hA hP hD (fun r742 W2 H locs hz742 hP hD hS => ?_)
  obtain ⟨hr742, hW2⟩ := hz742
  have hP := pm_Pp List.perm_append_comm hP
  have hD := pm_Dp List.perm_append_comm hD
  refine lv_pop hx hb dL_law_745 rfl ?_
  refine lv_goto (tgt := 2459) hx hb dL_law_746 (by decide) ?_
  refine W.widen (k := 1009 + 2 * ii) (n := 100145 + 25 * ii) (by omega) (by omega) ?_
  exact hend _ _ _ W1 W2 _ _ _ _ _ _ hW1 hW2 hJ hP hD hS hl
set_option maxHeartbeats 4000000 in
set_option maxRecDepth 100000 in
theorem lw_c13 {p : Program} {e : Env} {s : State} {m : MethodId} {below : List Frame} {meth : Method} {c : Code} (l : Launch) {sb L : Nat} {xs : Nat → Int32} (hL : L ≤ 3072) (C0 : lw_At p s m meth c sb L xs) {g : va_G} {cI cJ cB cZ cL : ClassId} (hK : va_K g vwCl (tyT cI cJ cB cZ cL) s) {kA vA : Nat → Nat} (hE : ENV kA vA (fun q : Nat => s.heap.size ≤ q) s) {x y : Nat} {ii : Nat} (h6 : ii + 6 ≤ L) (hend : ∀ (H : Heap) (locs : List Loc) (ls : Array Slot) (XT M : va_W) (sw sn ki mw mn kp : Nat → Int32) (hXT : XTSt cI cJ cB cZ cL x sw sn ki XT) (hM : MSt cI cJ cB cZ cL y mw mn kp M) (hJ : JJ sw sn ki mw mn kp) (hP : va_P g vwCl (XT ++ M) H) (hD : va_D (fun q : Nat => s.heap.size ≤ q) (XT ++ M)) (hS : va_S (fun q : Nat => s.heap.size ≤ q) s.heap H locs) (hl : lv_has ls 4 [(0, .ref sb), (1, .ref x), (2, .ref y), (3, .int (nI ii))]), W p l e room_1 s m #[Value.ref sb] below meth c H locs (1009 + 2 * ii) (100145 + 25 * ii) (lw_Z below #[Value.ref sb] s) (F0 m 2459 ls [])) (H : Heap) (locs : List Loc) (ls : Array Slot) (XT M : va_W) (sw sn ki mw mn kp : Nat → Int32) (hXT : XTSt cI cJ cB cZ cL x sw sn ki XT) (hM : MSt cI cJ cB cZ cL y mw mn kp M) (hJ : JJ sw sn ki mw mn kp) (hP : va_P g vwCl (XT ++ M) H) (hD : va_D (fun q : Nat => s.heap.size ≤ q) (XT ++ M)) (hS : va_S (fun q : Nat => s.heap.size ≤ q) s.heap H locs) (hl : lv_has ls 4 [(0, .ref sb), (1, .ref x), (2, .ref y), (3, .int (nI ii))]) : W p l e room_1 s m #[Value.ref sb] below meth c H locs (1000 + 2 * ii) (100000 + 25 * ii) (lw_Z below #[Value.ref sb] s) (F0 m 749 ls []) := by
  obtain ⟨hx, hb, hr, hml, hown, hts0, hX, hbl, hlocks, hgv⟩ := id C0
  have hts : ∀ w ∈ v_L_law, w.before #[Value.ref sb] s = true := fun w h => hts0 w (in_v_L_law w h)
  have hown : s.vm.findClass RL = some m.cls := hown
  have hA : ∀ q : Nat, s.heap.size ≤ q → (fun q : Nat => s.heap.size ≤ q) q := fun _ h => h
  have hbA : ¬ (fun q : Nat => s.heap.size ≤ q) sb := Nat.not_le.mpr hbl
  refine lv_aload_n hx hb dL_law_749 rfl (lv_at hl 1 rfl) ?_
  refine lv_aload_n hx hb dL_law_750 rfl (lv_at hl 0 rfl) ?_
  refine lv_iload_n hx hb dL_law_751 rfl (lv_at hl 3 rfl) ?_
  refine lv_iconst (v := 1) hx hb dL_law_752 (by decide) ?_
  refine lv_iadd hx hb dL_law_753 ?_
  refine va_sld hx hb hX hbl hbA hS (lw_ix 1 h6 hL (by decide)) dL_law_754 ?_
  refine lv_topi (nm_r (e' := xs (nI ii + 1).toNatClampNeg) rfl ?_)
  refine lv_aload_n hx hb dL_law_755 rfl (lv_at hl 0 rfl) ?_
  refine lv_iload_n hx hb dL_law_756 rfl (lv_at hl 3 rfl) ?_
  refine lv_iconst (v := 2) hx hb dL_law_757 (by decide) ?_
  refine lv_iadd hx hb dL_law_758 ?_
  refine va_sld hx hb hX hbl hbA hS (lw_ix 2 h6 hL (by decide)) dL_law_759 ?_
  refine lv_topi (nm_r (e' := xs (nI ii + 2).toNatClampNeg) rfl ?_)
  refine lc_i (X := XT) (Rr := M) (va_runV (As := [.int (xs (nI ii + 1).toNatClampNeg), .int (xs (nI ii + 2).toNatClampNeg)]) (rest := []) ⟨hx, hb, hml, hown, hts⟩ (lift_i (fun im X hX => cx_X11_mantel l g cI cJ cB cZ cL kA vA x im X H.size hX (xs (nI ii + 1).toNatClampNeg) (xs (nI ii + 2).toNatClampNeg)) hXT) (cwV 2 hts (goodIn_app (g_4 (List.mem_cons_of_mem _ (List.mem_append_left _ (List.mem_of_getElem? (i := 80) rfl))) (List.mem_cons_of_mem _ (List.mem_append_left _ (List.mem_of_getElem? (i := 81) rfl))) (List.mem_cons_of_mem _ (List.mem_append_left _ (List.mem_of_getElem? (i := 82) rfl))) (List.mem_cons_of_mem _ (List.mem_append_left _ (List.mem_of_getElem? (i := 3) rfl))) (by decide +kernel)) (goodIn_sub ml_v_X11_mantel good_v_X11_mantel)) rfl rfl rfl (by decide +kernel) ⟨Nat.le_of_ble_eq_true rfl, Nat.le_of_ble_eq_true rfl⟩) (lc_pre (ci := 10) (q := (RX11, TX11, 11)) hK hE hS hA hP hD rfl (xt_mem hXT)) rfl rfl hl.1 rfl (lv_room (Nat.le_of_ble_eq_true rfl)) dL_law_760 ⟨(by show (1000 + 2 * ii) + 0 ≤ 600000; omega), (by show (100000 + 25 * ii) + 0 ≤ 7302250; omega)⟩) hS hA hP hD (fun r760 W1 H locs hz760 hP hD hS => ?_)
  obtain ⟨hr760, hW1⟩ := hz760
  refine lv_pop hx hb dL_law_763 rfl ?_
  refine lv_aload_n hx hb dL_law_764 rfl (lv_at hl 2 rfl) ?_
  refine lv_aload_n hx hb dL_law_765 rfl (lv_at hl 0 rfl) ?_
  refine lv_iload_n hx hb dL_law_766 rfl (lv_at hl 3 rfl) ?_
  refine lv_iconst (v := 1) hx hb dL_law_767 (by decide) ?_
  refine lv_iadd hx hb dL_law_768 ?_
  refine va_sld hx hb hX hbl hbA hS (lw_ix 1 h6 hL (by decide)) dL_law_769 ?_
  refine lv_topi (nm_r (e' := xs (nI ii + 1).toNatClampNeg) rfl ?_)
  refine lv_aload_n hx hb dL_law_770 rfl (lv_at hl 0 rfl) ?_
  refine lv_iload_n hx hb dL_law_771 rfl (lv_at hl 3 rfl) ?_
  refine lv_iconst (v := 2) hx hb dL_law_772 (by decide) ?_
  refine lv_iadd hx hb dL_law_773 ?_
  refine va_sld hx hb hX hbl hbA hS (lw_ix 2 h6 hL (by decide)) dL_law_774 ?_
  refine lv_topi (nm_r (e' := xs (nI ii + 2).toNatClampNeg) rfl ?_)
  have hP := pm_Pp List.perm_append_comm hP
  have hD := pm_Dp List.perm_append_comm hD
  refine lc_i (X := M) (Rr := W1) (va_runV (As := [.int (xs (nI ii + 1).toNatClampNeg), .int (xs (nI ii + 2).toNatClampNeg)]) (rest := []) ⟨hx, hb, hml, hown, hts⟩ (cm_X12_mantel l g cI cJ cB cZ cL kA vA y M H.size hM (xs (nI ii + 1).toNatClampNeg) (xs (nI ii + 2).toNatClampNeg)) (cwV 2 hts (goodIn_app (g_4 (List.mem_cons_of_mem _ (List.mem_append_left _ (List.mem_of_getElem? (i := 83) rfl))) (List.mem_cons_of_mem _ (List.mem_append_left _ (List.mem_of_getElem? (i := 84) rfl))) (List.mem_cons_of_mem _ (List.mem_append_left _ (List.mem_of_getElem? (i := 85) rfl))) (List.mem_cons_of_mem _ (List.mem_append_left _ (List.mem_of_getElem? (i := 7) rfl))) (by decide +kernel)) (goodIn_sub ml_v_X12_mantel good_v_X12_mantel)) rfl rfl rfl (by decide +kernel) ⟨Nat.le_of_ble_eq_true rfl, Nat.le_of_ble_eq_true rfl⟩) (lc_pre (ci := 11) (q := (RX12, TX12, 56)) hK hE hS hA hP hD rfl (mt_mem hM)) rfl rfl hl.1 rfl (lv_room (Nat.le_of_ble_eq_true rfl)) dL_law_775 ⟨(by show (1000 + 2 * ii) + 0 + 0 ≤ 600000; omega), (by show (100000 + 25 * ii) + 0 + 0 ≤ 7302250; omega)⟩) hS hA hP hD (fun r775 W2 H locs hz775 hP hD hS => ?_)
  obtain ⟨hr775, hW2⟩ := hz775
  have hP := pm_Pp List.perm_append_comm hP
  have hD := pm_Dp List.perm_append_comm hD
  refine lv_pop hx hb dL_law_778 rfl ?_
  refine lv_goto (tgt := 2459) hx hb dL_law_779 (by decide) ?_
  refine W.widen (k := 1009 + 2 * ii) (n := 100145 + 25 * ii) (by omega) (by omega) ?_
  exact hend _ _ _ W1 W2 _ _ _ _ _ _ hW1 hW2 hJ hP hD hS hl
set_option maxHeartbeats 4000000 in
set_option maxRecDepth 100000 in
theorem lw_c14 {p : Program} {e : Env} {s : State} {m : MethodId} {below : List Frame} {meth : Method} {c : Code} (l : Launch) {sb L : Nat} {xs : Nat → Int32} (hL : L ≤ 3072) (C0 : lw_At p s m meth c sb L xs) {g : va_G} {cI cJ cB cZ cL : ClassId} (hK : va_K g vwCl (tyT cI cJ cB cZ cL) s) {kA vA : Nat → Nat} (hE : ENV kA vA (fun q : Nat => s.heap.size ≤ q) s) {x y : Nat} {ii : Nat} (h6 : ii + 6 ≤ L) (hend : ∀ (H : Heap) (locs : List Loc) (ls : Array Slot) (XT M : va_W) (sw sn ki mw mn kp : Nat → Int32) (hXT : XTSt cI cJ cB cZ cL x sw sn ki XT) (hM : MSt cI cJ cB cZ cL y mw mn kp M) (hJ : JJ sw sn ki mw mn kp) (hP : va_P g vwCl (XT ++ M) H) (hD : va_D (fun q : Nat => s.heap.size ≤ q) (XT ++ M)) (hS : va_S (fun q : Nat => s.heap.size ≤ q) s.heap H locs) (hl : lv_has ls 4 [(0, .ref sb), (1, .ref x), (2, .ref y), (3, .int (nI ii))]), W p l e room_1 s m #[Value.ref sb] below meth c H locs (1009 + 2 * ii) (100145 + 25 * ii) (lw_Z below #[Value.ref sb] s) (F0 m 2459 ls [])) (H : Heap) (locs : List Loc) (ls : Array Slot) (XT M : va_W) (sw sn ki mw mn kp : Nat → Int32) (hXT : XTSt cI cJ cB cZ cL x sw sn ki XT) (hM : MSt cI cJ cB cZ cL y mw mn kp M) (hJ : JJ sw sn ki mw mn kp) (hP : va_P g vwCl (XT ++ M) H) (hD : va_D (fun q : Nat => s.heap.size ≤ q) (XT ++ M)) (hS : va_S (fun q : Nat => s.heap.size ≤ q) s.heap H locs) (hl : lv_has ls 4 [(0, .ref sb), (1, .ref x), (2, .ref y), (3, .int (nI ii))]) : W p l e room_1 s m #[Value.ref sb] below meth c H locs (1000 + 2 * ii) (100000 + 25 * ii) (lw_Z below #[Value.ref sb] s) (F0 m 782 ls []) := by
  obtain ⟨hx, hb, hr, hml, hown, hts0, hX, hbl, hlocks, hgv⟩ := id C0
  have hts : ∀ w ∈ v_L_law, w.before #[Value.ref sb] s = true := fun w h => hts0 w (in_v_L_law w h)
  have hown : s.vm.findClass RL = some m.cls := hown
  have hA : ∀ q : Nat, s.heap.size ≤ q → (fun q : Nat => s.heap.size ≤ q) q := fun _ h => h
  have hbA : ¬ (fun q : Nat => s.heap.size ≤ q) sb := Nat.not_le.mpr hbl
  refine lv_aload_n hx hb dL_law_782 rfl (lv_at hl 1 rfl) ?_
  refine lv_aload_n hx hb dL_law_783 rfl (lv_at hl 0 rfl) ?_
  refine lv_iload_n hx hb dL_law_784 rfl (lv_at hl 3 rfl) ?_
  refine lv_iconst (v := 1) hx hb dL_law_785 (by decide) ?_
  refine lv_iadd hx hb dL_law_786 ?_
  refine va_sld hx hb hX hbl hbA hS (lw_ix 1 h6 hL (by decide)) dL_law_787 ?_
  refine lv_topi (nm_r (e' := xs (nI ii + 1).toNatClampNeg) rfl ?_)
  refine lv_aload_n hx hb dL_law_788 rfl (lv_at hl 0 rfl) ?_
  refine lv_iload_n hx hb dL_law_789 rfl (lv_at hl 3 rfl) ?_
  refine lv_iconst (v := 2) hx hb dL_law_790 (by decide) ?_
  refine lv_iadd hx hb dL_law_791 ?_
  refine va_sld hx hb hX hbl hbA hS (lw_ix 2 h6 hL (by decide)) dL_law_792 ?_
  refine lv_topi (nm_r (e' := xs (nI ii + 2).toNatClampNeg) rfl ?_)
  refine lc_i (X := XT) (Rr := M) (va_runV (As := [.int (xs (nI ii + 1).toNatClampNeg), .int (xs (nI ii + 2).toNatClampNeg)]) (rest := []) ⟨hx, hb, hml, hown, hts⟩ (lift_i (fun im X hX => cx_X11_whose l g cI cJ cB cZ cL kA vA x im X H.size hX (xs (nI ii + 1).toNatClampNeg) (xs (nI ii + 2).toNatClampNeg)) hXT) (cwV 2 hts (goodIn_app (g_4 (List.mem_cons_of_mem _ (List.mem_append_left _ (List.mem_of_getElem? (i := 86) rfl))) (List.mem_cons_of_mem _ (List.mem_append_left _ (List.mem_of_getElem? (i := 87) rfl))) (List.mem_cons_of_mem _ (List.mem_append_left _ (List.mem_of_getElem? (i := 88) rfl))) (List.mem_cons_of_mem _ (List.mem_append_left _ (List.mem_of_getElem? (i := 3) rfl))) (by decide +kernel)) (goodIn_sub ml_v_X11_whose good_v_X11_whose)) rfl rfl rfl (by decide +kernel) ⟨Nat.le_of_ble_eq_true rfl, Nat.le_of_ble_eq_true rfl⟩) (lc_pre (ci := 10) (q := (RX11, TX11, 11)) hK hE hS hA hP hD rfl (xt_mem hXT)) rfl rfl hl.1 rfl (lv_room (Nat.le_of_ble_eq_true rfl)) dL_law_793 ⟨(by show (1000 + 2 * ii) + 0 ≤ 600000; omega), (by show (100000 + 25 * ii) + 0 ≤ 7302250; omega)⟩) hS hA hP hD (fun r793 W1 H locs hz793 hP hD hS => ?_)
  obtain ⟨hr793, hW1⟩ := hz793
  refine lv_pop hx hb dL_law_796 rfl ?_
  refine lv_aload_n hx hb dL_law_797 rfl (lv_at hl 2 rfl) ?_
  refine lv_aload_n hx hb dL_law_798 rfl (lv_at hl 0 rfl) ?_
  refine lv_iload_n hx hb dL_law_799 rfl (lv_at hl 3 rfl) ?_
  refine lv_iconst (v := 1) hx hb dL_law_800 (by decide) ?_
  refine lv_iadd hx hb dL_law_801 ?_
  refine va_sld hx hb hX hbl hbA hS (lw_ix 1 h6 hL (by decide)) dL_law_802 ?_
  refine lv_topi (nm_r (e' := xs (nI ii + 1).toNatClampNeg) rfl ?_)
  refine lv_aload_n hx hb dL_law_803 rfl (lv_at hl 0 rfl) ?_
  refine lv_iload_n hx hb dL_law_804 rfl (lv_at hl 3 rfl) ?_
  refine lv_iconst (v := 2) hx hb dL_law_805 (by decide) ?_
  refine lv_iadd hx hb dL_law_806 ?_
  refine va_sld hx hb hX hbl hbA hS (lw_ix 2 h6 hL (by decide)) dL_law_807 ?_
  refine lv_topi (nm_r (e' := xs (nI ii + 2).toNatClampNeg) rfl ?_)
  have hP := pm_Pp List.perm_append_comm hP
  have hD := pm_Dp List.perm_append_comm hD
  refine lc_i (X := M) (Rr := W1) (va_runV (As := [.int (xs (nI ii + 1).toNatClampNeg), .int (xs (nI ii + 2).toNatClampNeg)]) (rest := []) ⟨hx, hb, hml, hown, hts⟩ (cm_X12_whose l g cI cJ cB cZ cL kA vA y M H.size hM (xs (nI ii + 1).toNatClampNeg) (xs (nI ii + 2).toNatClampNeg)) (cwV 2 hts (goodIn_app (g_4 (List.mem_cons_of_mem _ (List.mem_append_left _ (List.mem_of_getElem? (i := 89) rfl))) (List.mem_cons_of_mem _ (List.mem_append_left _ (List.mem_of_getElem? (i := 90) rfl))) (List.mem_cons_of_mem _ (List.mem_append_left _ (List.mem_of_getElem? (i := 91) rfl))) (List.mem_cons_of_mem _ (List.mem_append_left _ (List.mem_of_getElem? (i := 7) rfl))) (by decide +kernel)) (goodIn_sub ml_v_X12_whose good_v_X12_whose)) rfl rfl rfl (by decide +kernel) ⟨Nat.le_of_ble_eq_true rfl, Nat.le_of_ble_eq_true rfl⟩) (lc_pre (ci := 11) (q := (RX12, TX12, 56)) hK hE hS hA hP hD rfl (mt_mem hM)) rfl rfl hl.1 rfl (lv_room (Nat.le_of_ble_eq_true rfl)) dL_law_808 ⟨(by show (1000 + 2 * ii) + 0 + 0 ≤ 600000; omega), (by show (100000 + 25 * ii) + 0 + 0 ≤ 7302250; omega)⟩) hS hA hP hD (fun r808 W2 H locs hz808 hP hD hS => ?_)
  obtain ⟨hr808, hW2⟩ := hz808
  have hP := pm_Pp List.perm_append_comm hP
  have hD := pm_Dp List.perm_append_comm hD
  refine lv_pop hx hb dL_law_811 rfl ?_
  refine lv_goto (tgt := 2459) hx hb dL_law_812 (by decide) ?_
  refine W.widen (k := 1009 + 2 * ii) (n := 100145 + 25 * ii) (by omega) (by omega) ?_
  exact hend _ _ _ W1 W2 _ _ _ _ _ _ hW1 hW2 hJ hP hD hS hl
set_option maxHeartbeats 4000000 in
set_option maxRecDepth 100000 in
theorem lw_c15 {p : Program} {e : Env} {s : State} {m : MethodId} {below : List Frame} {meth : Method} {c : Code} (l : Launch) {sb L : Nat} {xs : Nat → Int32} (hL : L ≤ 3072) (C0 : lw_At p s m meth c sb L xs) {g : va_G} {cI cJ cB cZ cL : ClassId} (hK : va_K g vwCl (tyT cI cJ cB cZ cL) s) {kA vA : Nat → Nat} (hE : ENV kA vA (fun q : Nat => s.heap.size ≤ q) s) {x y : Nat} {ii : Nat} (h6 : ii + 6 ≤ L) (hend : ∀ (H : Heap) (locs : List Loc) (ls : Array Slot) (XT M : va_W) (sw sn ki mw mn kp : Nat → Int32) (hXT : XTSt cI cJ cB cZ cL x sw sn ki XT) (hM : MSt cI cJ cB cZ cL y mw mn kp M) (hJ : JJ sw sn ki mw mn kp) (hP : va_P g vwCl (XT ++ M) H) (hD : va_D (fun q : Nat => s.heap.size ≤ q) (XT ++ M)) (hS : va_S (fun q : Nat => s.heap.size ≤ q) s.heap H locs) (hl : lv_has ls 4 [(0, .ref sb), (1, .ref x), (2, .ref y), (3, .int (nI ii))]), W p l e room_1 s m #[Value.ref sb] below meth c H locs (1009 + 2 * ii) (100145 + 25 * ii) (lw_Z below #[Value.ref sb] s) (F0 m 2459 ls [])) (H : Heap) (locs : List Loc) (ls : Array Slot) (XT M : va_W) (sw sn ki mw mn kp : Nat → Int32) (hXT : XTSt cI cJ cB cZ cL x sw sn ki XT) (hM : MSt cI cJ cB cZ cL y mw mn kp M) (hJ : JJ sw sn ki mw mn kp) (hP : va_P g vwCl (XT ++ M) H) (hD : va_D (fun q : Nat => s.heap.size ≤ q) (XT ++ M)) (hS : va_S (fun q : Nat => s.heap.size ≤ q) s.heap H locs) (hl : lv_has ls 4 [(0, .ref sb), (1, .ref x), (2, .ref y), (3, .int (nI ii))]) : W p l e room_1 s m #[Value.ref sb] below meth c H locs (1000 + 2 * ii) (100000 + 25 * ii) (lw_Z below #[Value.ref sb] s) (F0 m 815 ls []) := by
  obtain ⟨hx, hb, hr, hml, hown, hts0, hX, hbl, hlocks, hgv⟩ := id C0
  have hts : ∀ w ∈ v_L_law, w.before #[Value.ref sb] s = true := fun w h => hts0 w (in_v_L_law w h)
  have hown : s.vm.findClass RL = some m.cls := hown
  have hA : ∀ q : Nat, s.heap.size ≤ q → (fun q : Nat => s.heap.size ≤ q) q := fun _ h => h
  have hbA : ¬ (fun q : Nat => s.heap.size ≤ q) sb := Nat.not_le.mpr hbl
  refine lv_aload_n hx hb dL_law_815 rfl (lv_at hl 1 rfl) ?_
  refine lv_aload_n hx hb dL_law_816 rfl (lv_at hl 0 rfl) ?_
  refine lv_iload_n hx hb dL_law_817 rfl (lv_at hl 3 rfl) ?_
  refine lv_iconst (v := 1) hx hb dL_law_818 (by decide) ?_
  refine lv_iadd hx hb dL_law_819 ?_
  refine va_sld hx hb hX hbl hbA hS (lw_ix 1 h6 hL (by decide)) dL_law_820 ?_
  refine lv_topi (nm_r (e' := xs (nI ii + 1).toNatClampNeg) rfl ?_)
  refine lv_aload_n hx hb dL_law_821 rfl (lv_at hl 0 rfl) ?_
  refine lv_iload_n hx hb dL_law_822 rfl (lv_at hl 3 rfl) ?_
  refine lv_iconst (v := 2) hx hb dL_law_823 (by decide) ?_
  refine lv_iadd hx hb dL_law_824 ?_
  refine va_sld hx hb hX hbl hbA hS (lw_ix 2 h6 hL (by decide)) dL_law_825 ?_
  refine lv_topi (nm_r (e' := xs (nI ii + 2).toNatClampNeg) rfl ?_)
  refine lc_i (X := XT) (Rr := M) (va_runV (As := [.int (xs (nI ii + 1).toNatClampNeg), .int (xs (nI ii + 2).toNatClampNeg)]) (rest := []) ⟨hx, hb, hml, hown, hts⟩ (lift_i (fun im X hX => cx_X11_hurts l g cI cJ cB cZ cL kA vA x im X H.size hX (xs (nI ii + 1).toNatClampNeg) (xs (nI ii + 2).toNatClampNeg)) hXT) (cwV 2 hts (goodIn_app (g_4 (List.mem_cons_of_mem _ (List.mem_append_left _ (List.mem_of_getElem? (i := 92) rfl))) (List.mem_cons_of_mem _ (List.mem_append_left _ (List.mem_of_getElem? (i := 93) rfl))) (List.mem_cons_of_mem _ (List.mem_append_left _ (List.mem_of_getElem? (i := 94) rfl))) (List.mem_cons_of_mem _ (List.mem_append_left _ (List.mem_of_getElem? (i := 3) rfl))) (by decide +kernel)) (goodIn_sub ml_v_X11_hurts good_v_X11_hurts)) rfl rfl rfl (by decide +kernel) ⟨Nat.le_of_ble_eq_true rfl, Nat.le_of_ble_eq_true rfl⟩) (lc_pre (ci := 10) (q := (RX11, TX11, 11)) hK hE hS hA hP hD rfl (xt_mem hXT)) rfl rfl hl.1 rfl (lv_room (Nat.le_of_ble_eq_true rfl)) dL_law_826 ⟨(by show (1000 + 2 * ii) + 0 ≤ 600000; omega), (by show (100000 + 25 * ii) + 0 ≤ 7302250; omega)⟩) hS hA hP hD (fun r826 W1 H locs hz826 hP hD hS => ?_)
  obtain ⟨hr826, hW1⟩ := hz826
  refine lv_pop hx hb dL_law_829 rfl ?_
  refine lv_aload_n hx hb dL_law_830 rfl (lv_at hl 2 rfl) ?_
  refine lv_aload_n hx hb dL_law_831 rfl (lv_at hl 0 rfl) ?_
  refine lv_iload_n hx hb dL_law_832 rfl (lv_at hl 3 rfl) ?_
  refine lv_iconst (v := 1) hx hb dL_law_833 (by decide) ?_
  refine lv_iadd hx hb dL_law_834 ?_
  refine va_sld hx hb hX hbl hbA hS (lw_ix 1 h6 hL (by decide)) dL_law_835 ?_
  refine lv_topi (nm_r (e' := xs (nI ii + 1).toNatClampNeg) rfl ?_)
  refine lv_aload_n hx hb dL_law_836 rfl (lv_at hl 0 rfl) ?_
  refine lv_iload_n hx hb dL_law_837 rfl (lv_at hl 3 rfl) ?_
  refine lv_iconst (v := 2) hx hb dL_law_838 (by decide) ?_
  refine lv_iadd hx hb dL_law_839 ?_
  refine va_sld hx hb hX hbl hbA hS (lw_ix 2 h6 hL (by decide)) dL_law_840 ?_
  refine lv_topi (nm_r (e' := xs (nI ii + 2).toNatClampNeg) rfl ?_)
  have hP := pm_Pp List.perm_append_comm hP
  have hD := pm_Dp List.perm_append_comm hD
  refine lc_i (X := M) (Rr := W1) (va_runV (As := [.int (xs (nI ii + 1).toNatClampNeg), .int (xs (nI ii + 2).toNatClampNeg)]) (rest := []) ⟨hx, hb, hml, hown, hts⟩ (cm_X12_hurts l g cI cJ cB cZ cL kA vA y M H.size hM (xs (nI ii + 1).toNatClampNeg) (xs (nI ii + 2).toNatClampNeg)) (cwV 2 hts (goodIn_app (g_4 (List.mem_cons_of_mem _ (List.mem_append_left _ (List.mem_of_getElem? (i := 95) rfl))) (List.mem_cons_of_mem _ (List.mem_append_left _ (List.mem_of_getElem? (i := 96) rfl))) (List.mem_cons_of_mem _ (List.mem_append_left _ (List.mem_of_getElem? (i := 97) rfl))) (List.mem_cons_of_mem _ (List.mem_append_left _ (List.mem_of_getElem? (i := 7) rfl))) (by decide +kernel)) (goodIn_sub ml_v_X12_hurts good_v_X12_hurts)) rfl rfl rfl (by decide +kernel) ⟨Nat.le_of_ble_eq_true rfl, Nat.le_of_ble_eq_true rfl⟩) (lc_pre (ci := 11) (q := (RX12, TX12, 56)) hK hE hS hA hP hD rfl (mt_mem hM)) rfl rfl hl.1 rfl (lv_room (Nat.le_of_ble_eq_true rfl)) dL_law_841 ⟨(by show (1000 + 2 * ii) + 0 + 0 ≤ 600000; omega), (by show (100000 + 25 * ii) + 0 + 0 ≤ 7302250; omega)⟩) hS hA hP hD (fun r841 W2 H locs hz841 hP hD hS => ?_)
  obtain ⟨hr841, hW2⟩ := hz841
  have hP := pm_Pp List.perm_append_comm hP
  have hD := pm_Dp List.perm_append_comm hD
  refine lv_pop hx hb dL_law_844 rfl ?_
  refine lv_goto (tgt := 2459) hx hb dL_law_845 (by decide) ?_
  refine W.widen (k := 1009 + 2 * ii) (n := 100145 + 25 * ii) (by omega) (by omega) ?_
  exact hend _ _ _ W1 W2 _ _ _ _ _ _ hW1 hW2 hJ hP hD hS hl
set_option maxHeartbeats 4000000 in
set_option maxRecDepth 100000 in
theorem lw_c16 {p : Program} {e : Env} {s : State} {m : MethodId} {below : List Frame} {meth : Method} {c : Code} (l : Launch) {sb L : Nat} {xs : Nat → Int32} (hL : L ≤ 3072) (C0 : lw_At p s m meth c sb L xs) {g : va_G} {cI cJ cB cZ cL : ClassId} (hK : va_K g vwCl (tyT cI cJ cB cZ cL) s) {kA vA : Nat → Nat} (hE : ENV kA vA (fun q : Nat => s.heap.size ≤ q) s) {x y : Nat} {ii : Nat} (h6 : ii + 6 ≤ L) (hend : ∀ (H : Heap) (locs : List Loc) (ls : Array Slot) (XT M : va_W) (sw sn ki mw mn kp : Nat → Int32) (hXT : XTSt cI cJ cB cZ cL x sw sn ki XT) (hM : MSt cI cJ cB cZ cL y mw mn kp M) (hJ : JJ sw sn ki mw mn kp) (hP : va_P g vwCl (XT ++ M) H) (hD : va_D (fun q : Nat => s.heap.size ≤ q) (XT ++ M)) (hS : va_S (fun q : Nat => s.heap.size ≤ q) s.heap H locs) (hl : lv_has ls 4 [(0, .ref sb), (1, .ref x), (2, .ref y), (3, .int (nI ii))]), W p l e room_1 s m #[Value.ref sb] below meth c H locs (1009 + 2 * ii) (100145 + 25 * ii) (lw_Z below #[Value.ref sb] s) (F0 m 2459 ls [])) (H : Heap) (locs : List Loc) (ls : Array Slot) (XT M : va_W) (sw sn ki mw mn kp : Nat → Int32) (hXT : XTSt cI cJ cB cZ cL x sw sn ki XT) (hM : MSt cI cJ cB cZ cL y mw mn kp M) (hJ : JJ sw sn ki mw mn kp) (hP : va_P g vwCl (XT ++ M) H) (hD : va_D (fun q : Nat => s.heap.size ≤ q) (XT ++ M)) (hS : va_S (fun q : Nat => s.heap.size ≤ q) s.heap H locs) (hl : lv_has ls 4 [(0, .ref sb), (1, .ref x), (2, .ref y), (3, .int (nI ii))]) : W p l e room_1 s m #[Value.ref sb] below meth c H locs (1000 + 2 * ii) (100000 + 25 * ii) (lw_Z below #[Value.ref sb] s) (F0 m 848 ls []) := by
  obtain ⟨hx, hb, hr, hml, hown, hts0, hX, hbl, hlocks, hgv⟩ := id C0
  have hts : ∀ w ∈ v_L_law, w.before #[Value.ref sb] s = true := fun w h => hts0 w (in_v_L_law w h)
  have hown : s.vm.findClass RL = some m.cls := hown
  have hA : ∀ q : Nat, s.heap.size ≤ q → (fun q : Nat => s.heap.size ≤ q) q := fun _ h => h
  have hbA : ¬ (fun q : Nat => s.heap.size ≤ q) sb := Nat.not_le.mpr hbl
  refine lv_aload_n hx hb dL_law_848 rfl (lv_at hl 1 rfl) ?_
  refine lv_aload_n hx hb dL_law_849 rfl (lv_at hl 0 rfl) ?_
  refine lv_iload_n hx hb dL_law_850 rfl (lv_at hl 3 rfl) ?_
  refine lv_iconst (v := 1) hx hb dL_law_851 (by decide) ?_
  refine lv_iadd hx hb dL_law_852 ?_
  refine va_sld hx hb hX hbl hbA hS (lw_ix 1 h6 hL (by decide)) dL_law_853 ?_
  refine lv_topi (nm_r (e' := xs (nI ii + 1).toNatClampNeg) rfl ?_)
  refine lc_i (X := XT) (Rr := M) (va_runV (As := [.int (xs (nI ii + 1).toNatClampNeg)]) (rest := []) ⟨hx, hb, hml, hown, hts⟩ (lift_i (fun im X hX => cx_X11_cost l g cI cJ cB cZ cL kA vA x im X H.size hX (xs (nI ii + 1).toNatClampNeg)) hXT) (cwV 1 hts (goodIn_app (g_4 (List.mem_cons_of_mem _ (List.mem_append_left _ (List.mem_of_getElem? (i := 98) rfl))) (List.mem_cons_of_mem _ (List.mem_append_left _ (List.mem_of_getElem? (i := 99) rfl))) (List.mem_cons_of_mem _ (List.mem_append_left _ (List.mem_of_getElem? (i := 100) rfl))) (List.mem_cons_of_mem _ (List.mem_append_left _ (List.mem_of_getElem? (i := 3) rfl))) (by decide +kernel)) (goodIn_sub ml_v_X11_cost good_v_X11_cost)) rfl rfl rfl (by decide +kernel) ⟨Nat.le_of_ble_eq_true rfl, Nat.le_of_ble_eq_true rfl⟩) (lc_pre (ci := 10) (q := (RX11, TX11, 11)) hK hE hS hA hP hD rfl (xt_mem hXT)) rfl rfl hl.1 rfl (lv_room (Nat.le_of_ble_eq_true rfl)) dL_law_854 ⟨(by show (1000 + 2 * ii) + 0 ≤ 600000; omega), (by show (100000 + 25 * ii) + 0 ≤ 7302250; omega)⟩) hS hA hP hD (fun r854 W1 H locs hz854 hP hD hS => ?_)
  obtain ⟨hr854, hW1⟩ := hz854
  refine lv_pop hx hb dL_law_857 rfl ?_
  refine lv_aload_n hx hb dL_law_858 rfl (lv_at hl 2 rfl) ?_
  refine lv_aload_n hx hb dL_law_859 rfl (lv_at hl 0 rfl) ?_
  refine lv_iload_n hx hb dL_law_860 rfl (lv_at hl 3 rfl) ?_
  refine lv_iconst (v := 1) hx hb dL_law_861 (by decide) ?_
  refine lv_iadd hx hb dL_law_862 ?_
  refine va_sld hx hb hX hbl hbA hS (lw_ix 1 h6 hL (by decide)) dL_law_863 ?_
  refine lv_topi (nm_r (e' := xs (nI ii + 1).toNatClampNeg) rfl ?_)
  have hP := pm_Pp List.perm_append_comm hP
  have hD := pm_Dp List.perm_append_comm hD
  refine lc_i (X := M) (Rr := W1) (va_runV (As := [.int (xs (nI ii + 1).toNatClampNeg)]) (rest := []) ⟨hx, hb, hml, hown, hts⟩ (cm_X12_cost l g cI cJ cB cZ cL kA vA y M H.size hM (xs (nI ii + 1).toNatClampNeg)) (cwV 1 hts (goodIn_app (g_4 (List.mem_cons_of_mem _ (List.mem_append_left _ (List.mem_of_getElem? (i := 101) rfl))) (List.mem_cons_of_mem _ (List.mem_append_left _ (List.mem_of_getElem? (i := 102) rfl))) (List.mem_cons_of_mem _ (List.mem_append_left _ (List.mem_of_getElem? (i := 103) rfl))) (List.mem_cons_of_mem _ (List.mem_append_left _ (List.mem_of_getElem? (i := 7) rfl))) (by decide +kernel)) (goodIn_sub ml_v_X12_cost good_v_X12_cost)) rfl rfl rfl (by decide +kernel) ⟨Nat.le_of_ble_eq_true rfl, Nat.le_of_ble_eq_true rfl⟩) (lc_pre (ci := 11) (q := (RX12, TX12, 56)) hK hE hS hA hP hD rfl (mt_mem hM)) rfl rfl hl.1 rfl (lv_room (Nat.le_of_ble_eq_true rfl)) dL_law_864 ⟨(by show (1000 + 2 * ii) + 0 + 0 ≤ 600000; omega), (by show (100000 + 25 * ii) + 0 + 0 ≤ 7302250; omega)⟩) hS hA hP hD (fun r864 W2 H locs hz864 hP hD hS => ?_)
  obtain ⟨hr864, hW2⟩ := hz864
  have hP := pm_Pp List.perm_append_comm hP
  have hD := pm_Dp List.perm_append_comm hD
  refine lv_pop hx hb dL_law_867 rfl ?_
  refine lv_goto (tgt := 2459) hx hb dL_law_868 (by decide) ?_
  refine W.widen (k := 1009 + 2 * ii) (n := 100145 + 25 * ii) (by omega) (by omega) ?_
  exact hend _ _ _ W1 W2 _ _ _ _ _ _ hW1 hW2 hJ hP hD hS hl
set_option maxHeartbeats 4000000 in
set_option maxRecDepth 100000 in
theorem lw_c17 {p : Program} {e : Env} {s : State} {m : MethodId} {below : List Frame} {meth : Method} {c : Code} (l : Launch) {sb L : Nat} {xs : Nat → Int32} (hL : L ≤ 3072) (C0 : lw_At p s m meth c sb L xs) {g : va_G} {cI cJ cB cZ cL : ClassId} (hK : va_K g vwCl (tyT cI cJ cB cZ cL) s) {kA vA : Nat → Nat} (hE : ENV kA vA (fun q : Nat => s.heap.size ≤ q) s) {x y : Nat} {ii : Nat} (h6 : ii + 6 ≤ L) (hend : ∀ (H : Heap) (locs : List Loc) (ls : Array Slot) (XT M : va_W) (sw sn ki mw mn kp : Nat → Int32) (hXT : XTSt cI cJ cB cZ cL x sw sn ki XT) (hM : MSt cI cJ cB cZ cL y mw mn kp M) (hJ : JJ sw sn ki mw mn kp) (hP : va_P g vwCl (XT ++ M) H) (hD : va_D (fun q : Nat => s.heap.size ≤ q) (XT ++ M)) (hS : va_S (fun q : Nat => s.heap.size ≤ q) s.heap H locs) (hl : lv_has ls 4 [(0, .ref sb), (1, .ref x), (2, .ref y), (3, .int (nI ii))]), W p l e room_1 s m #[Value.ref sb] below meth c H locs (1009 + 2 * ii) (100145 + 25 * ii) (lw_Z below #[Value.ref sb] s) (F0 m 2459 ls [])) (H : Heap) (locs : List Loc) (ls : Array Slot) (XT M : va_W) (sw sn ki mw mn kp : Nat → Int32) (hXT : XTSt cI cJ cB cZ cL x sw sn ki XT) (hM : MSt cI cJ cB cZ cL y mw mn kp M) (hJ : JJ sw sn ki mw mn kp) (hP : va_P g vwCl (XT ++ M) H) (hD : va_D (fun q : Nat => s.heap.size ≤ q) (XT ++ M)) (hS : va_S (fun q : Nat => s.heap.size ≤ q) s.heap H locs) (hl : lv_has ls 4 [(0, .ref sb), (1, .ref x), (2, .ref y), (3, .int (nI ii))]) : W p l e room_1 s m #[Value.ref sb] below meth c H locs (1000 + 2 * ii) (100000 + 25 * ii) (lw_Z below #[Value.ref sb] s) (F0 m 871 ls []) := by
  obtain ⟨hx, hb, hr, hml, hown, hts0, hX, hbl, hlocks, hgv⟩ := id C0
  have hts : ∀ w ∈ v_L_law, w.before #[Value.ref sb] s = true := fun w h => hts0 w (in_v_L_law w h)
  have hown : s.vm.findClass RL = some m.cls := hown
  have hA : ∀ q : Nat, s.heap.size ≤ q → (fun q : Nat => s.heap.size ≤ q) q := fun _ h => h
  have hbA : ¬ (fun q : Nat => s.heap.size ≤ q) sb := Nat.not_le.mpr hbl
  refine lv_aload_n hx hb dL_law_871 rfl (lv_at hl 1 rfl) ?_
  refine lc_i (X := XT) (Rr := M) (va_runV (As := []) (rest := []) ⟨hx, hb, hml, hown, hts⟩ (lift_i (fun im X hX => cx_X11_dearest l g cI cJ cB cZ cL kA vA x im X H.size hX ) hXT) (cwV 0 hts (goodIn_app (g_4 (List.mem_cons_of_mem _ (List.mem_append_left _ (List.mem_of_getElem? (i := 104) rfl))) (List.mem_cons_of_mem _ (List.mem_append_left _ (List.mem_of_getElem? (i := 105) rfl))) (List.mem_cons_of_mem _ (List.mem_append_left _ (List.mem_of_getElem? (i := 106) rfl))) (List.mem_cons_of_mem _ (List.mem_append_left _ (List.mem_of_getElem? (i := 3) rfl))) (by decide +kernel)) (goodIn_sub ml_v_X11_dearest good_v_X11_dearest)) rfl rfl rfl (by decide +kernel) ⟨Nat.le_of_ble_eq_true rfl, Nat.le_of_ble_eq_true rfl⟩) (lc_pre (ci := 10) (q := (RX11, TX11, 11)) hK hE hS hA hP hD rfl (xt_mem hXT)) rfl rfl hl.1 rfl (lv_room (Nat.le_of_ble_eq_true rfl)) dL_law_872 ⟨(by show (1000 + 2 * ii) + 0 ≤ 600000; omega), (by show (100000 + 25 * ii) + 0 ≤ 7302250; omega)⟩) hS hA hP hD (fun r872 W1 H locs hz872 hP hD hS => ?_)
  obtain ⟨hr872, hW1⟩ := hz872
  refine lv_pop hx hb dL_law_875 rfl ?_
  refine lv_aload_n hx hb dL_law_876 rfl (lv_at hl 2 rfl) ?_
  have hP := pm_Pp List.perm_append_comm hP
  have hD := pm_Dp List.perm_append_comm hD
  refine lc_i (X := M) (Rr := W1) (va_runV (As := []) (rest := []) ⟨hx, hb, hml, hown, hts⟩ (cm_X12_dearest l g cI cJ cB cZ cL kA vA y M H.size hM ) (cwV 0 hts (goodIn_app (g_4 (List.mem_cons_of_mem _ (List.mem_append_left _ (List.mem_of_getElem? (i := 107) rfl))) (List.mem_cons_of_mem _ (List.mem_append_left _ (List.mem_of_getElem? (i := 108) rfl))) (List.mem_cons_of_mem _ (List.mem_append_left _ (List.mem_of_getElem? (i := 109) rfl))) (List.mem_cons_of_mem _ (List.mem_append_left _ (List.mem_of_getElem? (i := 7) rfl))) (by decide +kernel)) (goodIn_sub ml_v_X12_dearest good_v_X12_dearest)) rfl rfl rfl (by decide +kernel) ⟨Nat.le_of_ble_eq_true rfl, Nat.le_of_ble_eq_true rfl⟩) (lc_pre (ci := 11) (q := (RX12, TX12, 56)) hK hE hS hA hP hD rfl (mt_mem hM)) rfl rfl hl.1 rfl (lv_room (Nat.le_of_ble_eq_true rfl)) dL_law_877 ⟨(by show (1000 + 2 * ii) + 0 + 0 ≤ 600000; omega), (by show (100000 + 25 * ii) + 0 + 0 ≤ 7302250; omega)⟩) hS hA hP hD (fun r877 W2 H locs hz877 hP hD hS => ?_)
  obtain ⟨hr877, hW2⟩ := hz877
  have hP := pm_Pp List.perm_append_comm hP
  have hD := pm_Dp List.perm_append_comm hD
  refine lv_pop hx hb dL_law_880 rfl ?_
  refine lv_goto (tgt := 2459) hx hb dL_law_881 (by decide) ?_
  refine W.widen (k := 1009 + 2 * ii) (n := 100145 + 25 * ii) (by omega) (by omega) ?_
  exact hend _ _ _ W1 W2 _ _ _ _ _ _ hW1 hW2 hJ hP hD hS hl
set_option maxHeartbeats 4000000 in
set_option maxRecDepth 100000 in
theorem lw_c18 {p : Program} {e : Env} {s : State} {m : MethodId} {below : List Frame} {meth : Method} {c : Code} (l : Launch) {sb L : Nat} {xs : Nat → Int32} (hL : L ≤ 3072) (C0 : lw_At p s m meth c sb L xs) {g : va_G} {cI cJ cB cZ cL : ClassId} (hK : va_K g vwCl (tyT cI cJ cB cZ cL) s) {kA vA : Nat → Nat} (hE : ENV kA vA (fun q : Nat => s.heap.size ≤ q) s) {x y : Nat} {ii : Nat} (h6 : ii + 6 ≤ L) (hend : ∀ (H : Heap) (locs : List Loc) (ls : Array Slot) (XT M : va_W) (sw sn ki mw mn kp : Nat → Int32) (hXT : XTSt cI cJ cB cZ cL x sw sn ki XT) (hM : MSt cI cJ cB cZ cL y mw mn kp M) (hJ : JJ sw sn ki mw mn kp) (hP : va_P g vwCl (XT ++ M) H) (hD : va_D (fun q : Nat => s.heap.size ≤ q) (XT ++ M)) (hS : va_S (fun q : Nat => s.heap.size ≤ q) s.heap H locs) (hl : lv_has ls 4 [(0, .ref sb), (1, .ref x), (2, .ref y), (3, .int (nI ii))]), W p l e room_1 s m #[Value.ref sb] below meth c H locs (1009 + 2 * ii) (100145 + 25 * ii) (lw_Z below #[Value.ref sb] s) (F0 m 2459 ls [])) (H : Heap) (locs : List Loc) (ls : Array Slot) (XT M : va_W) (sw sn ki mw mn kp : Nat → Int32) (hXT : XTSt cI cJ cB cZ cL x sw sn ki XT) (hM : MSt cI cJ cB cZ cL y mw mn kp M) (hJ : JJ sw sn ki mw mn kp) (hP : va_P g vwCl (XT ++ M) H) (hD : va_D (fun q : Nat => s.heap.size ≤ q) (XT ++ M)) (hS : va_S (fun q : Nat => s.heap.size ≤ q) s.heap H locs) (hl : lv_has ls 4 [(0, .ref sb), (1, .ref x), (2, .ref y), (3, .int (nI ii))]) : W p l e room_1 s m #[Value.ref sb] below meth c H locs (1000 + 2 * ii) (100000 + 25 * ii) (lw_Z below #[Value.ref sb] s) (F0 m 884 ls []) := by
  obtain ⟨hx, hb, hr, hml, hown, hts0, hX, hbl, hlocks, hgv⟩ := id C0
  have hts : ∀ w ∈ v_L_law, w.before #[Value.ref sb] s = true := fun w h => hts0 w (in_v_L_law w h)
  have hown : s.vm.findClass RL = some m.cls := hown
  have hA : ∀ q : Nat, s.heap.size ≤ q → (fun q : Nat => s.heap.size ≤ q) q := fun _ h => h
  have hbA : ¬ (fun q : Nat => s.heap.size ≤ q) sb := Nat.not_le.mpr hbl
  refine lv_aload_n hx hb dL_law_884 rfl (lv_at hl 1 rfl) ?_
  refine lv_aload_n hx hb dL_law_885 rfl (lv_at hl 0 rfl) ?_
  refine lv_iload_n hx hb dL_law_886 rfl (lv_at hl 3 rfl) ?_
  refine lv_iconst (v := 1) hx hb dL_law_887 (by decide) ?_
  refine lv_iadd hx hb dL_law_888 ?_
  refine va_sld hx hb hX hbl hbA hS (lw_ix 1 h6 hL (by decide)) dL_law_889 ?_
  refine lv_topi (nm_r (e' := xs (nI ii + 1).toNatClampNeg) rfl ?_)
  refine lc_i (X := XT) (Rr := M) (va_runV (As := [.int (xs (nI ii + 1).toNatClampNeg)]) (rest := []) ⟨hx, hb, hml, hown, hts⟩ (lift_i (fun im X hX => cx_X11_last l g cI cJ cB cZ cL kA vA x im X H.size hX (xs (nI ii + 1).toNatClampNeg)) hXT) (cwV 1 hts (goodIn_app (g_4 (List.mem_cons_of_mem _ (List.mem_append_left _ (List.mem_of_getElem? (i := 110) rfl))) (List.mem_cons_of_mem _ (List.mem_append_left _ (List.mem_of_getElem? (i := 111) rfl))) (List.mem_cons_of_mem _ (List.mem_append_left _ (List.mem_of_getElem? (i := 112) rfl))) (List.mem_cons_of_mem _ (List.mem_append_left _ (List.mem_of_getElem? (i := 3) rfl))) (by decide +kernel)) (goodIn_sub ml_v_X11_last good_v_X11_last)) rfl rfl rfl (by decide +kernel) ⟨Nat.le_of_ble_eq_true rfl, Nat.le_of_ble_eq_true rfl⟩) (lc_pre (ci := 10) (q := (RX11, TX11, 11)) hK hE hS hA hP hD rfl (xt_mem hXT)) rfl rfl hl.1 rfl (lv_room (Nat.le_of_ble_eq_true rfl)) dL_law_890 ⟨(by show (1000 + 2 * ii) + 0 ≤ 600000; omega), (by show (100000 + 25 * ii) + 0 ≤ 7302250; omega)⟩) hS hA hP hD (fun r890 W1 H locs hz890 hP hD hS => ?_)
  obtain ⟨hr890, hW1⟩ := hz890
  refine lv_pop hx hb dL_law_893 rfl ?_
  refine lv_aload_n hx hb dL_law_894 rfl (lv_at hl 2 rfl) ?_
  refine lv_aload_n hx hb dL_law_895 rfl (lv_at hl 0 rfl) ?_
  refine lv_iload_n hx hb dL_law_896 rfl (lv_at hl 3 rfl) ?_
  refine lv_iconst (v := 1) hx hb dL_law_897 (by decide) ?_
  refine lv_iadd hx hb dL_law_898 ?_
  refine va_sld hx hb hX hbl hbA hS (lw_ix 1 h6 hL (by decide)) dL_law_899 ?_
  refine lv_topi (nm_r (e' := xs (nI ii + 1).toNatClampNeg) rfl ?_)
  have hP := pm_Pp List.perm_append_comm hP
  have hD := pm_Dp List.perm_append_comm hD
  refine lc_i (X := M) (Rr := W1) (va_runV (As := [.int (xs (nI ii + 1).toNatClampNeg)]) (rest := []) ⟨hx, hb, hml, hown, hts⟩ (cm_X12_last l g cI cJ cB cZ cL kA vA y M H.size hM (xs (nI ii + 1).toNatClampNeg)) (cwV 1 hts (goodIn_app (g_4 (List.mem_cons_of_mem _ (List.mem_append_left _ (List.mem_of_getElem? (i := 113) rfl))) (List.mem_cons_of_mem _ (List.mem_append_left _ (List.mem_of_getElem? (i := 114) rfl))) (List.mem_cons_of_mem _ (List.mem_append_left _ (List.mem_of_getElem? (i := 115) rfl))) (List.mem_cons_of_mem _ (List.mem_append_left _ (List.mem_of_getElem? (i := 7) rfl))) (by decide +kernel)) (goodIn_sub ml_v_X12_last good_v_X12_last)) rfl rfl rfl (by decide +kernel) ⟨Nat.le_of_ble_eq_true rfl, Nat.le_of_ble_eq_true rfl⟩) (lc_pre (ci := 11) (q := (RX12, TX12, 56)) hK hE hS hA hP hD rfl (mt_mem hM)) rfl rfl hl.1 rfl (lv_room (Nat.le_of_ble_eq_true rfl)) dL_law_900 ⟨(by show (1000 + 2 * ii) + 0 + 0 ≤ 600000; omega), (by show (100000 + 25 * ii) + 0 + 0 ≤ 7302250; omega)⟩) hS hA hP hD (fun r900 W2 H locs hz900 hP hD hS => ?_)
  obtain ⟨hr900, hW2⟩ := hz900
  have hP := pm_Pp List.perm_append_comm hP
  have hD := pm_Dp List.perm_append_comm hD
  refine lv_pop hx hb dL_law_903 rfl ?_
  refine lv_goto (tgt := 2459) hx hb dL_law_904 (by decide) ?_
  refine W.widen (k := 1009 + 2 * ii) (n := 100145 + 25 * ii) (by omega) (by omega) ?_
  exact hend _ _ _ W1 W2 _ _ _ _ _ _ hW1 hW2 hJ hP hD hS hl
set_option maxHeartbeats 4000000 in
set_option maxRecDepth 100000 in
theorem lw_c19 {p : Program} {e : Env} {s : State} {m : MethodId} {below : List Frame} {meth : Method} {c : Code} (l : Launch) {sb L : Nat} {xs : Nat → Int32} (hL : L ≤ 3072) (C0 : lw_At p s m meth c sb L xs) {g : va_G} {cI cJ cB cZ cL : ClassId} (hK : va_K g vwCl (tyT cI cJ cB cZ cL) s) {kA vA : Nat → Nat} (hE : ENV kA vA (fun q : Nat => s.heap.size ≤ q) s) {x y : Nat} {ii : Nat} (h6 : ii + 6 ≤ L) (hend : ∀ (H : Heap) (locs : List Loc) (ls : Array Slot) (XT M : va_W) (sw sn ki mw mn kp : Nat → Int32) (hXT : XTSt cI cJ cB cZ cL x sw sn ki XT) (hM : MSt cI cJ cB cZ cL y mw mn kp M) (hJ : JJ sw sn ki mw mn kp) (hP : va_P g vwCl (XT ++ M) H) (hD : va_D (fun q : Nat => s.heap.size ≤ q) (XT ++ M)) (hS : va_S (fun q : Nat => s.heap.size ≤ q) s.heap H locs) (hl : lv_has ls 4 [(0, .ref sb), (1, .ref x), (2, .ref y), (3, .int (nI ii))]), W p l e room_1 s m #[Value.ref sb] below meth c H locs (1009 + 2 * ii) (100145 + 25 * ii) (lw_Z below #[Value.ref sb] s) (F0 m 2459 ls [])) (H : Heap) (locs : List Loc) (ls : Array Slot) (XT M : va_W) (sw sn ki mw mn kp : Nat → Int32) (hXT : XTSt cI cJ cB cZ cL x sw sn ki XT) (hM : MSt cI cJ cB cZ cL y mw mn kp M) (hJ : JJ sw sn ki mw mn kp) (hP : va_P g vwCl (XT ++ M) H) (hD : va_D (fun q : Nat => s.heap.size ≤ q) (XT ++ M)) (hS : va_S (fun q : Nat => s.heap.size ≤ q) s.heap H locs) (hl : lv_has ls 4 [(0, .ref sb), (1, .ref x), (2, .ref y), (3, .int (nI ii))]) : W p l e room_1 s m #[Value.ref sb] below meth c H locs (1000 + 2 * ii) (100000 + 25 * ii) (lw_Z below #[Value.ref sb] s) (F0 m 907 ls []) := by
  obtain ⟨hx, hb, hr, hml, hown, hts0, hX, hbl, hlocks, hgv⟩ := id C0
  have hts : ∀ w ∈ v_L_law, w.before #[Value.ref sb] s = true := fun w h => hts0 w (in_v_L_law w h)
  have hown : s.vm.findClass RL = some m.cls := hown
  have hA : ∀ q : Nat, s.heap.size ≤ q → (fun q : Nat => s.heap.size ≤ q) q := fun _ h => h
  have hbA : ¬ (fun q : Nat => s.heap.size ≤ q) sb := Nat.not_le.mpr hbl
  refine lv_aload_n hx hb dL_law_907 rfl (lv_at hl 1 rfl) ?_
  refine lc_i (X := XT) (Rr := M) (va_runV (As := []) (rest := []) ⟨hx, hb, hml, hown, hts⟩ (lift_i (fun im X hX => cx_X11_over l g cI cJ cB cZ cL kA vA x im X H.size hX ) hXT) (cwV 0 hts (goodIn_app (g_4 (List.mem_cons_of_mem _ (List.mem_append_left _ (List.mem_of_getElem? (i := 116) rfl))) (List.mem_cons_of_mem _ (List.mem_append_left _ (List.mem_of_getElem? (i := 117) rfl))) (List.mem_cons_of_mem _ (List.mem_append_left _ (List.mem_of_getElem? (i := 118) rfl))) (List.mem_cons_of_mem _ (List.mem_append_left _ (List.mem_of_getElem? (i := 3) rfl))) (by decide +kernel)) (goodIn_sub ml_v_X11_over good_v_X11_over)) rfl rfl rfl (by decide +kernel) ⟨Nat.le_of_ble_eq_true rfl, Nat.le_of_ble_eq_true rfl⟩) (lc_pre (ci := 10) (q := (RX11, TX11, 11)) hK hE hS hA hP hD rfl (xt_mem hXT)) rfl rfl hl.1 rfl (lv_room (Nat.le_of_ble_eq_true rfl)) dL_law_908 ⟨(by show (1000 + 2 * ii) + 0 ≤ 600000; omega), (by show (100000 + 25 * ii) + 0 ≤ 7302250; omega)⟩) hS hA hP hD (fun r908 W1 H locs hz908 hP hD hS => ?_)
  obtain ⟨hr908, hW1⟩ := hz908
  refine lv_pop hx hb dL_law_911 rfl ?_
  refine lv_aload_n hx hb dL_law_912 rfl (lv_at hl 2 rfl) ?_
  have hP := pm_Pp List.perm_append_comm hP
  have hD := pm_Dp List.perm_append_comm hD
  refine lc_i (X := M) (Rr := W1) (va_runV (As := []) (rest := []) ⟨hx, hb, hml, hown, hts⟩ (cm_X12_over l g cI cJ cB cZ cL kA vA y M H.size hM ) (cwV 0 hts (goodIn_app (g_4 (List.mem_cons_of_mem _ (List.mem_append_left _ (List.mem_of_getElem? (i := 119) rfl))) (List.mem_cons_of_mem _ (List.mem_append_left _ (List.mem_of_getElem? (i := 120) rfl))) (List.mem_cons_of_mem _ (List.mem_append_left _ (List.mem_of_getElem? (i := 121) rfl))) (List.mem_cons_of_mem _ (List.mem_append_left _ (List.mem_of_getElem? (i := 7) rfl))) (by decide +kernel)) (goodIn_sub ml_v_X12_over good_v_X12_over)) rfl rfl rfl (by decide +kernel) ⟨Nat.le_of_ble_eq_true rfl, Nat.le_of_ble_eq_true rfl⟩) (lc_pre (ci := 11) (q := (RX12, TX12, 56)) hK hE hS hA hP hD rfl (mt_mem hM)) rfl rfl hl.1 rfl (lv_room (Nat.le_of_ble_eq_true rfl)) dL_law_913 ⟨(by show (1000 + 2 * ii) + 0 + 0 ≤ 600000; omega), (by show (100000 + 25 * ii) + 0 + 0 ≤ 7302250; omega)⟩) hS hA hP hD (fun r913 W2 H locs hz913 hP hD hS => ?_)
  obtain ⟨hr913, hW2⟩ := hz913
  have hP := pm_Pp List.perm_append_comm hP
  have hD := pm_Dp List.perm_append_comm hD
  refine lv_pop hx hb dL_law_916 rfl ?_
  refine lv_goto (tgt := 2459) hx hb dL_law_917 (by decide) ?_
  refine W.widen (k := 1009 + 2 * ii) (n := 100145 + 25 * ii) (by omega) (by omega) ?_
  exact hend _ _ _ W1 W2 _ _ _ _ _ _ hW1 hW2 hJ hP hD hS hl
set_option maxHeartbeats 4000000 in
set_option maxRecDepth 100000 in
theorem lw_c20 {p : Program} {e : Env} {s : State} {m : MethodId} {below : List Frame} {meth : Method} {c : Code} (l : Launch) {sb L : Nat} {xs : Nat → Int32} (hL : L ≤ 3072) (C0 : lw_At p s m meth c sb L xs) {g : va_G} {cI cJ cB cZ cL : ClassId} (hK : va_K g vwCl (tyT cI cJ cB cZ cL) s) {kA vA : Nat → Nat} (hE : ENV kA vA (fun q : Nat => s.heap.size ≤ q) s) {x y : Nat} {ii : Nat} (h6 : ii + 6 ≤ L) (hend : ∀ (H : Heap) (locs : List Loc) (ls : Array Slot) (XT M : va_W) (sw sn ki mw mn kp : Nat → Int32) (hXT : XTSt cI cJ cB cZ cL x sw sn ki XT) (hM : MSt cI cJ cB cZ cL y mw mn kp M) (hJ : JJ sw sn ki mw mn kp) (hP : va_P g vwCl (XT ++ M) H) (hD : va_D (fun q : Nat => s.heap.size ≤ q) (XT ++ M)) (hS : va_S (fun q : Nat => s.heap.size ≤ q) s.heap H locs) (hl : lv_has ls 4 [(0, .ref sb), (1, .ref x), (2, .ref y), (3, .int (nI ii))]), W p l e room_1 s m #[Value.ref sb] below meth c H locs (1009 + 2 * ii) (100145 + 25 * ii) (lw_Z below #[Value.ref sb] s) (F0 m 2459 ls [])) (H : Heap) (locs : List Loc) (ls : Array Slot) (XT M : va_W) (sw sn ki mw mn kp : Nat → Int32) (hXT : XTSt cI cJ cB cZ cL x sw sn ki XT) (hM : MSt cI cJ cB cZ cL y mw mn kp M) (hJ : JJ sw sn ki mw mn kp) (hP : va_P g vwCl (XT ++ M) H) (hD : va_D (fun q : Nat => s.heap.size ≤ q) (XT ++ M)) (hS : va_S (fun q : Nat => s.heap.size ≤ q) s.heap H locs) (hl : lv_has ls 4 [(0, .ref sb), (1, .ref x), (2, .ref y), (3, .int (nI ii))]) : W p l e room_1 s m #[Value.ref sb] below meth c H locs (1000 + 2 * ii) (100000 + 25 * ii) (lw_Z below #[Value.ref sb] s) (F0 m 920 ls []) := by
  obtain ⟨hx, hb, hr, hml, hown, hts0, hX, hbl, hlocks, hgv⟩ := id C0
  have hts : ∀ w ∈ v_L_law, w.before #[Value.ref sb] s = true := fun w h => hts0 w (in_v_L_law w h)
  have hown : s.vm.findClass RL = some m.cls := hown
  have hA : ∀ q : Nat, s.heap.size ≤ q → (fun q : Nat => s.heap.size ≤ q) q := fun _ h => h
  have hbA : ¬ (fun q : Nat => s.heap.size ≤ q) sb := Nat.not_le.mpr hbl
  refine lv_aload_n hx hb dL_law_920 rfl (lv_at hl 1 rfl) ?_
  refine lc_i (X := XT) (Rr := M) (va_runV (As := []) (rest := []) ⟨hx, hb, hml, hown, hts⟩ (lift_i (fun im X hX => cx_X11_poorest l g cI cJ cB cZ cL kA vA x im X H.size hX ) hXT) (cwV 0 hts (goodIn_app (g_4 (List.mem_cons_of_mem _ (List.mem_append_left _ (List.mem_of_getElem? (i := 122) rfl))) (List.mem_cons_of_mem _ (List.mem_append_left _ (List.mem_of_getElem? (i := 123) rfl))) (List.mem_cons_of_mem _ (List.mem_append_left _ (List.mem_of_getElem? (i := 124) rfl))) (List.mem_cons_of_mem _ (List.mem_append_left _ (List.mem_of_getElem? (i := 3) rfl))) (by decide +kernel)) (goodIn_sub ml_v_X11_poorest good_v_X11_poorest)) rfl rfl rfl (by decide +kernel) ⟨Nat.le_of_ble_eq_true rfl, Nat.le_of_ble_eq_true rfl⟩) (lc_pre (ci := 10) (q := (RX11, TX11, 11)) hK hE hS hA hP hD rfl (xt_mem hXT)) rfl rfl hl.1 rfl (lv_room (Nat.le_of_ble_eq_true rfl)) dL_law_921 ⟨(by show (1000 + 2 * ii) + 0 ≤ 600000; omega), (by show (100000 + 25 * ii) + 0 ≤ 7302250; omega)⟩) hS hA hP hD (fun r921 W1 H locs hz921 hP hD hS => ?_)
  obtain ⟨hr921, hW1⟩ := hz921
  refine lv_pop hx hb dL_law_924 rfl ?_
  refine lv_aload_n hx hb dL_law_925 rfl (lv_at hl 2 rfl) ?_
  have hP := pm_Pp List.perm_append_comm hP
  have hD := pm_Dp List.perm_append_comm hD
  refine lc_i (X := M) (Rr := W1) (va_runV (As := []) (rest := []) ⟨hx, hb, hml, hown, hts⟩ (cm_X12_poorest l g cI cJ cB cZ cL kA vA y M H.size hM ) (cwV 0 hts (goodIn_app (g_4 (List.mem_cons_of_mem _ (List.mem_append_left _ (List.mem_of_getElem? (i := 125) rfl))) (List.mem_cons_of_mem _ (List.mem_append_left _ (List.mem_of_getElem? (i := 126) rfl))) (List.mem_cons_of_mem _ (List.mem_append_left _ (List.mem_of_getElem? (i := 127) rfl))) (List.mem_cons_of_mem _ (List.mem_append_left _ (List.mem_of_getElem? (i := 7) rfl))) (by decide +kernel)) (goodIn_sub ml_v_X12_poorest good_v_X12_poorest)) rfl rfl rfl (by decide +kernel) ⟨Nat.le_of_ble_eq_true rfl, Nat.le_of_ble_eq_true rfl⟩) (lc_pre (ci := 11) (q := (RX12, TX12, 56)) hK hE hS hA hP hD rfl (mt_mem hM)) rfl rfl hl.1 rfl (lv_room (Nat.le_of_ble_eq_true rfl)) dL_law_926 ⟨(by show (1000 + 2 * ii) + 0 + 0 ≤ 600000; omega), (by show (100000 + 25 * ii) + 0 + 0 ≤ 7302250; omega)⟩) hS hA hP hD (fun r926 W2 H locs hz926 hP hD hS => ?_)
  obtain ⟨hr926, hW2⟩ := hz926
  have hP := pm_Pp List.perm_append_comm hP
  have hD := pm_Dp List.perm_append_comm hD
  refine lv_pop hx hb dL_law_929 rfl ?_
  refine lv_goto (tgt := 2459) hx hb dL_law_930 (by decide) ?_
  refine W.widen (k := 1009 + 2 * ii) (n := 100145 + 25 * ii) (by omega) (by omega) ?_
  exact hend _ _ _ W1 W2 _ _ _ _ _ _ hW1 hW2 hJ hP hD hS hl
set_option maxHeartbeats 4000000 in
set_option maxRecDepth 100000 in
theorem lw_c21 {p : Program} {e : Env} {s : State} {m : MethodId} {below : List Frame} {meth : Method} {c : Code} (l : Launch) {sb L : Nat} {xs : Nat → Int32} (hL : L ≤ 3072) (C0 : lw_At p s m meth c sb L xs) {g : va_G} {cI cJ cB cZ cL : ClassId} (hK : va_K g vwCl (tyT cI cJ cB cZ cL) s) {kA vA : Nat → Nat} (hE : ENV kA vA (fun q : Nat => s.heap.size ≤ q) s) {x y : Nat} {ii : Nat} (h6 : ii + 6 ≤ L) (hend : ∀ (H : Heap) (locs : List Loc) (ls : Array Slot) (XT M : va_W) (sw sn ki mw mn kp : Nat → Int32) (hXT : XTSt cI cJ cB cZ cL x sw sn ki XT) (hM : MSt cI cJ cB cZ cL y mw mn kp M) (hJ : JJ sw sn ki mw mn kp) (hP : va_P g vwCl (XT ++ M) H) (hD : va_D (fun q : Nat => s.heap.size ≤ q) (XT ++ M)) (hS : va_S (fun q : Nat => s.heap.size ≤ q) s.heap H locs) (hl : lv_has ls 4 [(0, .ref sb), (1, .ref x), (2, .ref y), (3, .int (nI ii))]), W p l e room_1 s m #[Value.ref sb] below meth c H locs (1009 + 2 * ii) (100145 + 25 * ii) (lw_Z below #[Value.ref sb] s) (F0 m 2459 ls [])) (H : Heap) (locs : List Loc) (ls : Array Slot) (XT M : va_W) (sw sn ki mw mn kp : Nat → Int32) (hXT : XTSt cI cJ cB cZ cL x sw sn ki XT) (hM : MSt cI cJ cB cZ cL y mw mn kp M) (hJ : JJ sw sn ki mw mn kp) (hP : va_P g vwCl (XT ++ M) H) (hD : va_D (fun q : Nat => s.heap.size ≤ q) (XT ++ M)) (hS : va_S (fun q : Nat => s.heap.size ≤ q) s.heap H locs) (hl : lv_has ls 4 [(0, .ref sb), (1, .ref x), (2, .ref y), (3, .int (nI ii))]) : W p l e room_1 s m #[Value.ref sb] below meth c H locs (1000 + 2 * ii) (100000 + 25 * ii) (lw_Z below #[Value.ref sb] s) (F0 m 933 ls []) := by
  obtain ⟨hx, hb, hr, hml, hown, hts0, hX, hbl, hlocks, hgv⟩ := id C0
  have hts : ∀ w ∈ v_L_law, w.before #[Value.ref sb] s = true := fun w h => hts0 w (in_v_L_law w h)
  have hown : s.vm.findClass RL = some m.cls := hown
  have hA : ∀ q : Nat, s.heap.size ≤ q → (fun q : Nat => s.heap.size ≤ q) q := fun _ h => h
  have hbA : ¬ (fun q : Nat => s.heap.size ≤ q) sb := Nat.not_le.mpr hbl
  refine lv_aload_n hx hb dL_law_933 rfl (lv_at hl 1 rfl) ?_
  refine lv_aload_n hx hb dL_law_934 rfl (lv_at hl 0 rfl) ?_
  refine lv_iload_n hx hb dL_law_935 rfl (lv_at hl 3 rfl) ?_
  refine lv_iconst (v := 1) hx hb dL_law_936 (by decide) ?_
  refine lv_iadd hx hb dL_law_937 ?_
  refine va_sld hx hb hX hbl hbA hS (lw_ix 1 h6 hL (by decide)) dL_law_938 ?_
  refine lv_topi (nm_r (e' := xs (nI ii + 1).toNatClampNeg) rfl ?_)
  refine lc_i (X := XT) (Rr := M) (va_runV (As := [.int (xs (nI ii + 1).toNatClampNeg)]) (rest := []) ⟨hx, hb, hml, hown, hts⟩ (lift_i (fun im X hX => cx_X11_odds l g cI cJ cB cZ cL kA vA x im X H.size hX (xs (nI ii + 1).toNatClampNeg)) hXT) (cwV 1 hts (goodIn_app (g_4 (List.mem_cons_of_mem _ (List.mem_append_left _ (List.mem_of_getElem? (i := 128) rfl))) (List.mem_cons_of_mem _ (List.mem_append_left _ (List.mem_of_getElem? (i := 129) rfl))) (List.mem_cons_of_mem _ (List.mem_append_left _ (List.mem_of_getElem? (i := 130) rfl))) (List.mem_cons_of_mem _ (List.mem_append_left _ (List.mem_of_getElem? (i := 3) rfl))) (by decide +kernel)) (goodIn_sub ml_v_X11_odds good_v_X11_odds)) rfl rfl rfl (by decide +kernel) ⟨Nat.le_of_ble_eq_true rfl, Nat.le_of_ble_eq_true rfl⟩) (lc_pre (ci := 10) (q := (RX11, TX11, 11)) hK hE hS hA hP hD rfl (xt_mem hXT)) rfl rfl hl.1 rfl (lv_room (Nat.le_of_ble_eq_true rfl)) dL_law_939 ⟨(by show (1000 + 2 * ii) + 0 ≤ 600000; omega), (by show (100000 + 25 * ii) + 0 ≤ 7302250; omega)⟩) hS hA hP hD (fun r939 W1 H locs hz939 hP hD hS => ?_)
  obtain ⟨hr939, hW1⟩ := hz939
  refine lv_pop hx hb dL_law_942 rfl ?_
  refine lv_aload_n hx hb dL_law_943 rfl (lv_at hl 2 rfl) ?_
  refine lv_aload_n hx hb dL_law_944 rfl (lv_at hl 0 rfl) ?_
  refine lv_iload_n hx hb dL_law_945 rfl (lv_at hl 3 rfl) ?_
  refine lv_iconst (v := 1) hx hb dL_law_946 (by decide) ?_
  refine lv_iadd hx hb dL_law_947 ?_
  refine va_sld hx hb hX hbl hbA hS (lw_ix 1 h6 hL (by decide)) dL_law_948 ?_
  refine lv_topi (nm_r (e' := xs (nI ii + 1).toNatClampNeg) rfl ?_)
  have hP := pm_Pp List.perm_append_comm hP
  have hD := pm_Dp List.perm_append_comm hD
  refine lc_i (X := M) (Rr := W1) (va_runV (As := [.int (xs (nI ii + 1).toNatClampNeg)]) (rest := []) ⟨hx, hb, hml, hown, hts⟩ (cm_X12_odds l g cI cJ cB cZ cL kA vA y M H.size hM (xs (nI ii + 1).toNatClampNeg)) (cwV 1 hts (goodIn_app (g_4 (List.mem_cons_of_mem _ (List.mem_append_left _ (List.mem_of_getElem? (i := 131) rfl))) (List.mem_cons_of_mem _ (List.mem_append_left _ (List.mem_of_getElem? (i := 132) rfl))) (List.mem_cons_of_mem _ (List.mem_append_left _ (List.mem_of_getElem? (i := 133) rfl))) (List.mem_cons_of_mem _ (List.mem_append_left _ (List.mem_of_getElem? (i := 7) rfl))) (by decide +kernel)) (goodIn_sub ml_v_X12_odds good_v_X12_odds)) rfl rfl rfl (by decide +kernel) ⟨Nat.le_of_ble_eq_true rfl, Nat.le_of_ble_eq_true rfl⟩) (lc_pre (ci := 11) (q := (RX12, TX12, 56)) hK hE hS hA hP hD rfl (mt_mem hM)) rfl rfl hl.1 rfl (lv_room (Nat.le_of_ble_eq_true rfl)) dL_law_949 ⟨(by show (1000 + 2 * ii) + 0 + 0 ≤ 600000; omega), (by show (100000 + 25 * ii) + 0 + 0 ≤ 7302250; omega)⟩) hS hA hP hD (fun r949 W2 H locs hz949 hP hD hS => ?_)
  obtain ⟨hr949, hW2⟩ := hz949
  have hP := pm_Pp List.perm_append_comm hP
  have hD := pm_Dp List.perm_append_comm hD
  refine lv_pop hx hb dL_law_952 rfl ?_
  refine lv_goto (tgt := 2459) hx hb dL_law_953 (by decide) ?_
  refine W.widen (k := 1009 + 2 * ii) (n := 100145 + 25 * ii) (by omega) (by omega) ?_
  exact hend _ _ _ W1 W2 _ _ _ _ _ _ hW1 hW2 hJ hP hD hS hl
set_option maxHeartbeats 4000000 in
set_option maxRecDepth 100000 in
theorem lw_c22 {p : Program} {e : Env} {s : State} {m : MethodId} {below : List Frame} {meth : Method} {c : Code} (l : Launch) {sb L : Nat} {xs : Nat → Int32} (hL : L ≤ 3072) (C0 : lw_At p s m meth c sb L xs) {g : va_G} {cI cJ cB cZ cL : ClassId} (hK : va_K g vwCl (tyT cI cJ cB cZ cL) s) {kA vA : Nat → Nat} (hE : ENV kA vA (fun q : Nat => s.heap.size ≤ q) s) {x y : Nat} {ii : Nat} (h6 : ii + 6 ≤ L) (hend : ∀ (H : Heap) (locs : List Loc) (ls : Array Slot) (XT M : va_W) (sw sn ki mw mn kp : Nat → Int32) (hXT : XTSt cI cJ cB cZ cL x sw sn ki XT) (hM : MSt cI cJ cB cZ cL y mw mn kp M) (hJ : JJ sw sn ki mw mn kp) (hP : va_P g vwCl (XT ++ M) H) (hD : va_D (fun q : Nat => s.heap.size ≤ q) (XT ++ M)) (hS : va_S (fun q : Nat => s.heap.size ≤ q) s.heap H locs) (hl : lv_has ls 4 [(0, .ref sb), (1, .ref x), (2, .ref y), (3, .int (nI ii))]), W p l e room_1 s m #[Value.ref sb] below meth c H locs (1009 + 2 * ii) (100145 + 25 * ii) (lw_Z below #[Value.ref sb] s) (F0 m 2459 ls [])) (H : Heap) (locs : List Loc) (ls : Array Slot) (XT M : va_W) (sw sn ki mw mn kp : Nat → Int32) (hXT : XTSt cI cJ cB cZ cL x sw sn ki XT) (hM : MSt cI cJ cB cZ cL y mw mn kp M) (hJ : JJ sw sn ki mw mn kp) (hP : va_P g vwCl (XT ++ M) H) (hD : va_D (fun q : Nat => s.heap.size ≤ q) (XT ++ M)) (hS : va_S (fun q : Nat => s.heap.size ≤ q) s.heap H locs) (hl : lv_has ls 4 [(0, .ref sb), (1, .ref x), (2, .ref y), (3, .int (nI ii))]) : W p l e room_1 s m #[Value.ref sb] below meth c H locs (1000 + 2 * ii) (100000 + 25 * ii) (lw_Z below #[Value.ref sb] s) (F0 m 956 ls []) := by
  obtain ⟨hx, hb, hr, hml, hown, hts0, hX, hbl, hlocks, hgv⟩ := id C0
  have hts : ∀ w ∈ v_L_law, w.before #[Value.ref sb] s = true := fun w h => hts0 w (in_v_L_law w h)
  have hown : s.vm.findClass RL = some m.cls := hown
  have hA : ∀ q : Nat, s.heap.size ≤ q → (fun q : Nat => s.heap.size ≤ q) q := fun _ h => h
  have hbA : ¬ (fun q : Nat => s.heap.size ≤ q) sb := Nat.not_le.mpr hbl
  refine lv_aload_n hx hb dL_law_956 rfl (lv_at hl 1 rfl) ?_
  refine lv_aload_n hx hb dL_law_957 rfl (lv_at hl 0 rfl) ?_
  refine lv_iload_n hx hb dL_law_958 rfl (lv_at hl 3 rfl) ?_
  refine lv_iconst (v := 1) hx hb dL_law_959 (by decide) ?_
  refine lv_iadd hx hb dL_law_960 ?_
  refine va_sld hx hb hX hbl hbA hS (lw_ix 1 h6 hL (by decide)) dL_law_961 ?_
  refine lv_topi (nm_r (e' := xs (nI ii + 1).toNatClampNeg) rfl ?_)
  refine lv_aload_n hx hb dL_law_962 rfl (lv_at hl 0 rfl) ?_
  refine lv_iload_n hx hb dL_law_963 rfl (lv_at hl 3 rfl) ?_
  refine lv_iconst (v := 2) hx hb dL_law_964 (by decide) ?_
  refine lv_iadd hx hb dL_law_965 ?_
  refine va_sld hx hb hX hbl hbA hS (lw_ix 2 h6 hL (by decide)) dL_law_966 ?_
  refine lv_topi (nm_r (e' := xs (nI ii + 2).toNatClampNeg) rfl ?_)
  refine lc_i (X := XT) (Rr := M) (va_runV (As := [.int (xs (nI ii + 1).toNatClampNeg), .int (xs (nI ii + 2).toNatClampNeg)]) (rest := []) ⟨hx, hb, hml, hown, hts⟩ (lift_i (fun im X hX => cx_X11_streak l g cI cJ cB cZ cL kA vA x im X H.size hX (xs (nI ii + 1).toNatClampNeg) (xs (nI ii + 2).toNatClampNeg)) hXT) (cwV 2 hts (goodIn_app (g_4 (List.mem_cons_of_mem _ (List.mem_append_left _ (List.mem_of_getElem? (i := 134) rfl))) (List.mem_cons_of_mem _ (List.mem_append_left _ (List.mem_of_getElem? (i := 135) rfl))) (List.mem_cons_of_mem _ (List.mem_append_left _ (List.mem_of_getElem? (i := 136) rfl))) (List.mem_cons_of_mem _ (List.mem_append_left _ (List.mem_of_getElem? (i := 3) rfl))) (by decide +kernel)) (goodIn_sub ml_v_X11_streak good_v_X11_streak)) rfl rfl rfl (by decide +kernel) ⟨Nat.le_of_ble_eq_true rfl, Nat.le_of_ble_eq_true rfl⟩) (lc_pre (ci := 10) (q := (RX11, TX11, 11)) hK hE hS hA hP hD rfl (xt_mem hXT)) rfl rfl hl.1 rfl (lv_room (Nat.le_of_ble_eq_true rfl)) dL_law_967 ⟨(by show (1000 + 2 * ii) + 0 ≤ 600000; omega), (by show (100000 + 25 * ii) + 0 ≤ 7302250; omega)⟩) hS hA hP hD (fun r967 W1 H locs hz967 hP hD hS => ?_)
  obtain ⟨hr967, hW1⟩ := hz967
  refine lv_pop hx hb dL_law_970 rfl ?_
  refine lv_aload_n hx hb dL_law_971 rfl (lv_at hl 2 rfl) ?_
  refine lv_aload_n hx hb dL_law_972 rfl (lv_at hl 0 rfl) ?_
  refine lv_iload_n hx hb dL_law_973 rfl (lv_at hl 3 rfl) ?_
  refine lv_iconst (v := 1) hx hb dL_law_974 (by decide) ?_
  refine lv_iadd hx hb dL_law_975 ?_
  refine va_sld hx hb hX hbl hbA hS (lw_ix 1 h6 hL (by decide)) dL_law_976 ?_
  refine lv_topi (nm_r (e' := xs (nI ii + 1).toNatClampNeg) rfl ?_)
  refine lv_aload_n hx hb dL_law_977 rfl (lv_at hl 0 rfl) ?_
  refine lv_iload_n hx hb dL_law_978 rfl (lv_at hl 3 rfl) ?_
  refine lv_iconst (v := 2) hx hb dL_law_979 (by decide) ?_
  refine lv_iadd hx hb dL_law_980 ?_
  refine va_sld hx hb hX hbl hbA hS (lw_ix 2 h6 hL (by decide)) dL_law_981 ?_
  refine lv_topi (nm_r (e' := xs (nI ii + 2).toNatClampNeg) rfl ?_)
  have hP := pm_Pp List.perm_append_comm hP
  have hD := pm_Dp List.perm_append_comm hD
  refine lc_i (X := M) (Rr := W1) (va_runV (As := [.int (xs (nI ii + 1).toNatClampNeg), .int (xs (nI ii + 2).toNatClampNeg)]) (rest := []) ⟨hx, hb, hml, hown, hts⟩ (cm_X12_streak l g cI cJ cB cZ cL kA vA y M H.size hM (xs (nI ii + 1).toNatClampNeg) (xs (nI ii + 2).toNatClampNeg)) (cwV 2 hts (goodIn_app (g_4 (List.mem_cons_of_mem _ (List.mem_append_left _ (List.mem_of_getElem? (i := 137) rfl))) (List.mem_cons_of_mem _ (List.mem_append_left _ (List.mem_of_getElem? (i := 138) rfl))) (List.mem_cons_of_mem _ (List.mem_append_left _ (List.mem_of_getElem? (i := 139) rfl))) (List.mem_cons_of_mem _ (List.mem_append_left _ (List.mem_of_getElem? (i := 7) rfl))) (by decide +kernel)) (goodIn_sub ml_v_X12_streak good_v_X12_streak)) rfl rfl rfl (by decide +kernel) ⟨Nat.le_of_ble_eq_true rfl, Nat.le_of_ble_eq_true rfl⟩) (lc_pre (ci := 11) (q := (RX12, TX12, 56)) hK hE hS hA hP hD rfl (mt_mem hM)) rfl rfl hl.1 rfl (lv_room (Nat.le_of_ble_eq_true rfl)) dL_law_982 ⟨(by show (1000 + 2 * ii) + 0 + 0 ≤ 600000; omega), (by show (100000 + 25 * ii) + 0 + 0 ≤ 7302250; omega)⟩) hS hA hP hD (fun r982 W2 H locs hz982 hP hD hS => ?_)
  obtain ⟨hr982, hW2⟩ := hz982
  have hP := pm_Pp List.perm_append_comm hP
  have hD := pm_Dp List.perm_append_comm hD
  refine lv_pop hx hb dL_law_985 rfl ?_
  refine lv_goto (tgt := 2459) hx hb dL_law_986 (by decide) ?_
  refine W.widen (k := 1009 + 2 * ii) (n := 100145 + 25 * ii) (by omega) (by omega) ?_
  exact hend _ _ _ W1 W2 _ _ _ _ _ _ hW1 hW2 hJ hP hD hS hl
set_option maxHeartbeats 4000000 in
set_option maxRecDepth 100000 in
theorem lw_c23 {p : Program} {e : Env} {s : State} {m : MethodId} {below : List Frame} {meth : Method} {c : Code} (l : Launch) {sb L : Nat} {xs : Nat → Int32} (hL : L ≤ 3072) (C0 : lw_At p s m meth c sb L xs) {g : va_G} {cI cJ cB cZ cL : ClassId} (hK : va_K g vwCl (tyT cI cJ cB cZ cL) s) {kA vA : Nat → Nat} (hE : ENV kA vA (fun q : Nat => s.heap.size ≤ q) s) {x y : Nat} {ii : Nat} (h6 : ii + 6 ≤ L) (hend : ∀ (H : Heap) (locs : List Loc) (ls : Array Slot) (XT M : va_W) (sw sn ki mw mn kp : Nat → Int32) (hXT : XTSt cI cJ cB cZ cL x sw sn ki XT) (hM : MSt cI cJ cB cZ cL y mw mn kp M) (hJ : JJ sw sn ki mw mn kp) (hP : va_P g vwCl (XT ++ M) H) (hD : va_D (fun q : Nat => s.heap.size ≤ q) (XT ++ M)) (hS : va_S (fun q : Nat => s.heap.size ≤ q) s.heap H locs) (hl : lv_has ls 4 [(0, .ref sb), (1, .ref x), (2, .ref y), (3, .int (nI ii))]), W p l e room_1 s m #[Value.ref sb] below meth c H locs (1009 + 2 * ii) (100145 + 25 * ii) (lw_Z below #[Value.ref sb] s) (F0 m 2459 ls [])) (H : Heap) (locs : List Loc) (ls : Array Slot) (XT M : va_W) (sw sn ki mw mn kp : Nat → Int32) (hXT : XTSt cI cJ cB cZ cL x sw sn ki XT) (hM : MSt cI cJ cB cZ cL y mw mn kp M) (hJ : JJ sw sn ki mw mn kp) (hP : va_P g vwCl (XT ++ M) H) (hD : va_D (fun q : Nat => s.heap.size ≤ q) (XT ++ M)) (hS : va_S (fun q : Nat => s.heap.size ≤ q) s.heap H locs) (hl : lv_has ls 4 [(0, .ref sb), (1, .ref x), (2, .ref y), (3, .int (nI ii))]) : W p l e room_1 s m #[Value.ref sb] below meth c H locs (1000 + 2 * ii) (100000 + 25 * ii) (lw_Z below #[Value.ref sb] s) (F0 m 989 ls []) := by
  obtain ⟨hx, hb, hr, hml, hown, hts0, hX, hbl, hlocks, hgv⟩ := id C0
  have hts : ∀ w ∈ v_L_law, w.before #[Value.ref sb] s = true := fun w h => hts0 w (in_v_L_law w h)
  have hown : s.vm.findClass RL = some m.cls := hown
  have hA : ∀ q : Nat, s.heap.size ≤ q → (fun q : Nat => s.heap.size ≤ q) q := fun _ h => h
  have hbA : ¬ (fun q : Nat => s.heap.size ≤ q) sb := Nat.not_le.mpr hbl
  refine lv_aload_n hx hb dL_law_989 rfl (lv_at hl 1 rfl) ?_
  refine lv_aload_n hx hb dL_law_990 rfl (lv_at hl 0 rfl) ?_
  refine lv_iload_n hx hb dL_law_991 rfl (lv_at hl 3 rfl) ?_
  refine lv_iconst (v := 1) hx hb dL_law_992 (by decide) ?_
  refine lv_iadd hx hb dL_law_993 ?_
  refine va_sld hx hb hX hbl hbA hS (lw_ix 1 h6 hL (by decide)) dL_law_994 ?_
  refine lv_topi (nm_r (e' := xs (nI ii + 1).toNatClampNeg) rfl ?_)
  refine lv_aload_n hx hb dL_law_995 rfl (lv_at hl 0 rfl) ?_
  refine lv_iload_n hx hb dL_law_996 rfl (lv_at hl 3 rfl) ?_
  refine lv_iconst (v := 2) hx hb dL_law_997 (by decide) ?_
  refine lv_iadd hx hb dL_law_998 ?_
  refine va_sld hx hb hX hbl hbA hS (lw_ix 2 h6 hL (by decide)) dL_law_999 ?_
  refine lv_topi (nm_r (e' := xs (nI ii + 2).toNatClampNeg) rfl ?_)
  refine lv_aload_n hx hb dL_law_1000 rfl (lv_at hl 0 rfl) ?_
  refine lv_iload_n hx hb dL_law_1001 rfl (lv_at hl 3 rfl) ?_
  refine lv_iconst (v := 3) hx hb dL_law_1002 (by decide) ?_
  refine lv_iadd hx hb dL_law_1003 ?_
  refine va_sld hx hb hX hbl hbA hS (lw_ix 3 h6 hL (by decide)) dL_law_1004 ?_
  refine lv_topi (nm_r (e' := xs (nI ii + 3).toNatClampNeg) rfl ?_)
  refine lv_aload_n hx hb dL_law_1005 rfl (lv_at hl 0 rfl) ?_
  refine lv_iload_n hx hb dL_law_1006 rfl (lv_at hl 3 rfl) ?_
  refine lv_iconst (v := 4) hx hb dL_law_1007 (by decide) ?_
  refine lv_iadd hx hb dL_law_1008 ?_
  refine va_sld hx hb hX hbl hbA hS (lw_ix 4 h6 hL (by decide)) dL_law_1009 ?_
  refine lv_topi (nm_r (e' := xs (nI ii + 4).toNatClampNeg) rfl ?_)
  refine lc_i (X := XT) (Rr := M) (va_runV (As := [.int (xs (nI ii + 1).toNatClampNeg), .int (xs (nI ii + 2).toNatClampNeg), .int (xs (nI ii + 3).toNatClampNeg), .int (xs (nI ii + 4).toNatClampNeg)]) (rest := []) ⟨hx, hb, hml, hown, hts⟩ (lift_i (fun im X hX => cx_fate l g cI cJ cB cZ cL kA vA x im X H.size hX (xs (nI ii + 1).toNatClampNeg) (xs (nI ii + 2).toNatClampNeg) (xs (nI ii + 3).toNatClampNeg) (xs (nI ii + 4).toNatClampNeg)) hXT) (cwV 4 hts (goodIn_app (g_4 (List.mem_cons_of_mem _ (List.mem_append_left _ (List.mem_of_getElem? (i := 140) rfl))) (List.mem_cons_of_mem _ (List.mem_append_left _ (List.mem_of_getElem? (i := 141) rfl))) (List.mem_cons_of_mem _ (List.mem_append_left _ (List.mem_of_getElem? (i := 142) rfl))) (List.mem_cons_of_mem _ (List.mem_append_left _ (List.mem_of_getElem? (i := 3) rfl))) (by decide +kernel)) (goodIn_sub ml_v_fX11_fate good_v_fX11_fate)) rfl rfl rfl (by decide +kernel) ⟨Nat.le_of_ble_eq_true rfl, Nat.le_of_ble_eq_true rfl⟩) (lc_pre (ci := 10) (q := (RX11, TX11, 11)) hK hE hS hA hP hD rfl (xt_mem hXT)) rfl rfl hl.1 rfl (lv_room (Nat.le_of_ble_eq_true rfl)) dL_law_1010 ⟨(by show (1000 + 2 * ii) + 0 ≤ 600000; omega), (by show (100000 + 25 * ii) + 0 ≤ 7302250; omega)⟩) hS hA hP hD (fun r1010 W1 H locs hz1010 hP hD hS => ?_)
  obtain ⟨hr1010, hW1⟩ := hz1010
  refine lv_pop hx hb dL_law_1013 rfl ?_
  refine lv_aload_n hx hb dL_law_1014 rfl (lv_at hl 2 rfl) ?_
  refine lv_aload_n hx hb dL_law_1015 rfl (lv_at hl 0 rfl) ?_
  refine lv_iload_n hx hb dL_law_1016 rfl (lv_at hl 3 rfl) ?_
  refine lv_iconst (v := 1) hx hb dL_law_1017 (by decide) ?_
  refine lv_iadd hx hb dL_law_1018 ?_
  refine va_sld hx hb hX hbl hbA hS (lw_ix 1 h6 hL (by decide)) dL_law_1019 ?_
  refine lv_topi (nm_r (e' := xs (nI ii + 1).toNatClampNeg) rfl ?_)
  refine lv_aload_n hx hb dL_law_1020 rfl (lv_at hl 0 rfl) ?_
  refine lv_iload_n hx hb dL_law_1021 rfl (lv_at hl 3 rfl) ?_
  refine lv_iconst (v := 2) hx hb dL_law_1022 (by decide) ?_
  refine lv_iadd hx hb dL_law_1023 ?_
  refine va_sld hx hb hX hbl hbA hS (lw_ix 2 h6 hL (by decide)) dL_law_1024 ?_
  refine lv_topi (nm_r (e' := xs (nI ii + 2).toNatClampNeg) rfl ?_)
  refine lv_aload_n hx hb dL_law_1025 rfl (lv_at hl 0 rfl) ?_
  refine lv_iload_n hx hb dL_law_1026 rfl (lv_at hl 3 rfl) ?_
  refine lv_iconst (v := 3) hx hb dL_law_1027 (by decide) ?_
  refine lv_iadd hx hb dL_law_1028 ?_
  refine va_sld hx hb hX hbl hbA hS (lw_ix 3 h6 hL (by decide)) dL_law_1029 ?_
  refine lv_topi (nm_r (e' := xs (nI ii + 3).toNatClampNeg) rfl ?_)
  refine lv_aload_n hx hb dL_law_1030 rfl (lv_at hl 0 rfl) ?_
  refine lv_iload_n hx hb dL_law_1031 rfl (lv_at hl 3 rfl) ?_
  refine lv_iconst (v := 4) hx hb dL_law_1032 (by decide) ?_
  refine lv_iadd hx hb dL_law_1033 ?_
  refine va_sld hx hb hX hbl hbA hS (lw_ix 4 h6 hL (by decide)) dL_law_1034 ?_
  refine lv_topi (nm_r (e' := xs (nI ii + 4).toNatClampNeg) rfl ?_)
  have hP := pm_Pp List.perm_append_comm hP
  have hD := pm_Dp List.perm_append_comm hD
  refine lc_i (X := M) (Rr := W1) (va_runV (As := [.int (xs (nI ii + 1).toNatClampNeg), .int (xs (nI ii + 2).toNatClampNeg), .int (xs (nI ii + 3).toNatClampNeg), .int (xs (nI ii + 4).toNatClampNeg)]) (rest := []) ⟨hx, hb, hml, hown, hts⟩ (cm_fate l g cI cJ cB cZ cL kA vA y M H.size hM (xs (nI ii + 1).toNatClampNeg) (xs (nI ii + 2).toNatClampNeg) (xs (nI ii + 3).toNatClampNeg) (xs (nI ii + 4).toNatClampNeg)) (cwV 4 hts (goodIn_app (g_4 (List.mem_cons_of_mem _ (List.mem_append_left _ (List.mem_of_getElem? (i := 143) rfl))) (List.mem_cons_of_mem _ (List.mem_append_left _ (List.mem_of_getElem? (i := 144) rfl))) (List.mem_cons_of_mem _ (List.mem_append_left _ (List.mem_of_getElem? (i := 145) rfl))) (List.mem_cons_of_mem _ (List.mem_append_left _ (List.mem_of_getElem? (i := 7) rfl))) (by decide +kernel)) (goodIn_sub ml_v_fX12_fate good_v_fX12_fate)) rfl rfl rfl (by decide +kernel) ⟨Nat.le_of_ble_eq_true rfl, Nat.le_of_ble_eq_true rfl⟩) (lc_pre (ci := 11) (q := (RX12, TX12, 56)) hK hE hS hA hP hD rfl (mt_mem hM)) rfl rfl hl.1 rfl (lv_room (Nat.le_of_ble_eq_true rfl)) dL_law_1035 ⟨(by show (1000 + 2 * ii) + 0 + 0 ≤ 600000; omega), (by show (100000 + 25 * ii) + 0 + 0 ≤ 7302250; omega)⟩) hS hA hP hD (fun r1035 W2 H locs hz1035 hP hD hS => ?_)
  obtain ⟨hr1035, hW2⟩ := hz1035
  have hP := pm_Pp List.perm_append_comm hP
  have hD := pm_Dp List.perm_append_comm hD
  refine lv_pop hx hb dL_law_1038 rfl ?_
  refine lv_goto (tgt := 2459) hx hb dL_law_1039 (by decide) ?_
  refine W.widen (k := 1009 + 2 * ii) (n := 100145 + 25 * ii) (by omega) (by omega) ?_
  exact hend _ _ _ W1 W2 _ _ _ _ _ _ hW1 hW2 hJ hP hD hS hl
set_option maxHeartbeats 4000000 in
set_option maxRecDepth 100000 in
theorem lw_c24 {p : Program} {e : Env} {s : State} {m : MethodId} {below : List Frame} {meth : Method} {c : Code} (l : Launch) {sb L : Nat} {xs : Nat → Int32} (hL : L ≤ 3072) (C0 : lw_At p s m meth c sb L xs) {g : va_G} {cI cJ cB cZ cL : ClassId} (hK : va_K g vwCl (tyT cI cJ cB cZ cL) s) {kA vA : Nat → Nat} (hE : ENV kA vA (fun q : Nat => s.heap.size ≤ q) s) {x y : Nat} {ii : Nat} (h6 : ii + 6 ≤ L) (hend : ∀ (H : Heap) (locs : List Loc) (ls : Array Slot) (XT M : va_W) (sw sn ki mw mn kp : Nat → Int32) (hXT : XTSt cI cJ cB cZ cL x sw sn ki XT) (hM : MSt cI cJ cB cZ cL y mw mn kp M) (hJ : JJ sw sn ki mw mn kp) (hP : va_P g vwCl (XT ++ M) H) (hD : va_D (fun q : Nat => s.heap.size ≤ q) (XT ++ M)) (hS : va_S (fun q : Nat => s.heap.size ≤ q) s.heap H locs) (hl : lv_has ls 4 [(0, .ref sb), (1, .ref x), (2, .ref y), (3, .int (nI ii))]), W p l e room_1 s m #[Value.ref sb] below meth c H locs (1009 + 2 * ii) (100145 + 25 * ii) (lw_Z below #[Value.ref sb] s) (F0 m 2459 ls [])) (H : Heap) (locs : List Loc) (ls : Array Slot) (XT M : va_W) (sw sn ki mw mn kp : Nat → Int32) (hXT : XTSt cI cJ cB cZ cL x sw sn ki XT) (hM : MSt cI cJ cB cZ cL y mw mn kp M) (hJ : JJ sw sn ki mw mn kp) (hP : va_P g vwCl (XT ++ M) H) (hD : va_D (fun q : Nat => s.heap.size ≤ q) (XT ++ M)) (hS : va_S (fun q : Nat => s.heap.size ≤ q) s.heap H locs) (hl : lv_has ls 4 [(0, .ref sb), (1, .ref x), (2, .ref y), (3, .int (nI ii))]) : W p l e room_1 s m #[Value.ref sb] below meth c H locs (1000 + 2 * ii) (100000 + 25 * ii) (lw_Z below #[Value.ref sb] s) (F0 m 1042 ls []) := by
  obtain ⟨hx, hb, hr, hml, hown, hts0, hX, hbl, hlocks, hgv⟩ := id C0
  have hts : ∀ w ∈ v_L_law, w.before #[Value.ref sb] s = true := fun w h => hts0 w (in_v_L_law w h)
  have hown : s.vm.findClass RL = some m.cls := hown
  have hA : ∀ q : Nat, s.heap.size ≤ q → (fun q : Nat => s.heap.size ≤ q) q := fun _ h => h
  have hbA : ¬ (fun q : Nat => s.heap.size ≤ q) sb := Nat.not_le.mpr hbl
  refine lv_aload_n hx hb dL_law_1042 rfl (lv_at hl 1 rfl) ?_
  refine lv_aload_n hx hb dL_law_1043 rfl (lv_at hl 0 rfl) ?_
  refine lv_iload_n hx hb dL_law_1044 rfl (lv_at hl 3 rfl) ?_
  refine lv_iconst (v := 1) hx hb dL_law_1045 (by decide) ?_
  refine lv_iadd hx hb dL_law_1046 ?_
  refine va_sld hx hb hX hbl hbA hS (lw_ix 1 h6 hL (by decide)) dL_law_1047 ?_
  refine lv_topi (nm_r (e' := xs (nI ii + 1).toNatClampNeg) rfl ?_)
  refine lv_aload_n hx hb dL_law_1048 rfl (lv_at hl 0 rfl) ?_
  refine lv_iload_n hx hb dL_law_1049 rfl (lv_at hl 3 rfl) ?_
  refine lv_iconst (v := 2) hx hb dL_law_1050 (by decide) ?_
  refine lv_iadd hx hb dL_law_1051 ?_
  refine va_sld hx hb hX hbl hbA hS (lw_ix 2 h6 hL (by decide)) dL_law_1052 ?_
  refine lv_topi (nm_r (e' := xs (nI ii + 2).toNatClampNeg) rfl ?_)
  refine lc_i (X := XT) (Rr := M) (va_runV (As := [.int (xs (nI ii + 1).toNatClampNeg), .int (xs (nI ii + 2).toNatClampNeg)]) (rest := []) ⟨hx, hb, hml, hown, hts⟩ (lift_i (fun im X hX => cx_X11_goes l g cI cJ cB cZ cL kA vA x im X H.size hX (xs (nI ii + 1).toNatClampNeg) (xs (nI ii + 2).toNatClampNeg)) hXT) (cwV 2 hts (goodIn_app (g_4 (List.mem_cons_of_mem _ (List.mem_append_left _ (List.mem_of_getElem? (i := 146) rfl))) (List.mem_cons_of_mem _ (List.mem_append_left _ (List.mem_of_getElem? (i := 147) rfl))) (List.mem_cons_of_mem _ (List.mem_append_left _ (List.mem_of_getElem? (i := 148) rfl))) (List.mem_cons_of_mem _ (List.mem_append_left _ (List.mem_of_getElem? (i := 3) rfl))) (by decide +kernel)) (goodIn_sub ml_v_X11_goes good_v_X11_goes)) rfl rfl rfl (by decide +kernel) ⟨Nat.le_of_ble_eq_true rfl, Nat.le_of_ble_eq_true rfl⟩) (lc_pre (ci := 10) (q := (RX11, TX11, 11)) hK hE hS hA hP hD rfl (xt_mem hXT)) rfl rfl hl.1 rfl (lv_room (Nat.le_of_ble_eq_true rfl)) dL_law_1053 ⟨(by show (1000 + 2 * ii) + 0 ≤ 600000; omega), (by show (100000 + 25 * ii) + 0 ≤ 7302250; omega)⟩) hS hA hP hD (fun r1053 W1 H locs hz1053 hP hD hS => ?_)
  obtain ⟨hr1053, hW1⟩ := hz1053
  refine lv_pop hx hb dL_law_1056 rfl ?_
  refine lv_aload_n hx hb dL_law_1057 rfl (lv_at hl 2 rfl) ?_
  refine lv_aload_n hx hb dL_law_1058 rfl (lv_at hl 0 rfl) ?_
  refine lv_iload_n hx hb dL_law_1059 rfl (lv_at hl 3 rfl) ?_
  refine lv_iconst (v := 1) hx hb dL_law_1060 (by decide) ?_
  refine lv_iadd hx hb dL_law_1061 ?_
  refine va_sld hx hb hX hbl hbA hS (lw_ix 1 h6 hL (by decide)) dL_law_1062 ?_
  refine lv_topi (nm_r (e' := xs (nI ii + 1).toNatClampNeg) rfl ?_)
  refine lv_aload_n hx hb dL_law_1063 rfl (lv_at hl 0 rfl) ?_
  refine lv_iload_n hx hb dL_law_1064 rfl (lv_at hl 3 rfl) ?_
  refine lv_iconst (v := 2) hx hb dL_law_1065 (by decide) ?_
  refine lv_iadd hx hb dL_law_1066 ?_
  refine va_sld hx hb hX hbl hbA hS (lw_ix 2 h6 hL (by decide)) dL_law_1067 ?_
  refine lv_topi (nm_r (e' := xs (nI ii + 2).toNatClampNeg) rfl ?_)
  have hP := pm_Pp List.perm_append_comm hP
  have hD := pm_Dp List.perm_append_comm hD
  refine lc_i (X := M) (Rr := W1) (va_runV (As := [.int (xs (nI ii + 1).toNatClampNeg), .int (xs (nI ii + 2).toNatClampNeg)]) (rest := []) ⟨hx, hb, hml, hown, hts⟩ (cm_X12_goes_ l g cI cJ cB cZ cL kA vA y M H.size hM (xs (nI ii + 1).toNatClampNeg) (xs (nI ii + 2).toNatClampNeg)) (cwV 2 hts (goodIn_app (g_4 (List.mem_cons_of_mem _ (List.mem_append_left _ (List.mem_of_getElem? (i := 149) rfl))) (List.mem_cons_of_mem _ (List.mem_append_left _ (List.mem_of_getElem? (i := 150) rfl))) (List.mem_cons_of_mem _ (List.mem_append_left _ (List.mem_of_getElem? (i := 151) rfl))) (List.mem_cons_of_mem _ (List.mem_append_left _ (List.mem_of_getElem? (i := 7) rfl))) (by decide +kernel)) (goodIn_sub ml_v_X12_goes_ good_v_X12_goes_)) rfl rfl rfl (by decide +kernel) ⟨Nat.le_of_ble_eq_true rfl, Nat.le_of_ble_eq_true rfl⟩) (lc_pre (ci := 11) (q := (RX12, TX12, 56)) hK hE hS hA hP hD rfl (mt_mem hM)) rfl rfl hl.1 rfl (lv_room (Nat.le_of_ble_eq_true rfl)) dL_law_1068 ⟨(by show (1000 + 2 * ii) + 0 + 0 ≤ 600000; omega), (by show (100000 + 25 * ii) + 0 + 0 ≤ 7302250; omega)⟩) hS hA hP hD (fun r1068 W2 H locs hz1068 hP hD hS => ?_)
  obtain ⟨hr1068, hW2⟩ := hz1068
  have hP := pm_Pp List.perm_append_comm hP
  have hD := pm_Dp List.perm_append_comm hD
  refine lv_pop hx hb dL_law_1071 rfl ?_
  refine lv_goto (tgt := 2459) hx hb dL_law_1072 (by decide) ?_
  refine W.widen (k := 1009 + 2 * ii) (n := 100145 + 25 * ii) (by omega) (by omega) ?_
  exact hend _ _ _ W1 W2 _ _ _ _ _ _ hW1 hW2 hJ hP hD hS hl
set_option maxHeartbeats 4000000 in
set_option maxRecDepth 100000 in
theorem lw_c25 {p : Program} {e : Env} {s : State} {m : MethodId} {below : List Frame} {meth : Method} {c : Code} (l : Launch) {sb L : Nat} {xs : Nat → Int32} (hL : L ≤ 3072) (C0 : lw_At p s m meth c sb L xs) {g : va_G} {cI cJ cB cZ cL : ClassId} (hK : va_K g vwCl (tyT cI cJ cB cZ cL) s) {kA vA : Nat → Nat} (hE : ENV kA vA (fun q : Nat => s.heap.size ≤ q) s) {x y : Nat} {ii : Nat} (h6 : ii + 6 ≤ L) (hend : ∀ (H : Heap) (locs : List Loc) (ls : Array Slot) (XT M : va_W) (sw sn ki mw mn kp : Nat → Int32) (hXT : XTSt cI cJ cB cZ cL x sw sn ki XT) (hM : MSt cI cJ cB cZ cL y mw mn kp M) (hJ : JJ sw sn ki mw mn kp) (hP : va_P g vwCl (XT ++ M) H) (hD : va_D (fun q : Nat => s.heap.size ≤ q) (XT ++ M)) (hS : va_S (fun q : Nat => s.heap.size ≤ q) s.heap H locs) (hl : lv_has ls 4 [(0, .ref sb), (1, .ref x), (2, .ref y), (3, .int (nI ii))]), W p l e room_1 s m #[Value.ref sb] below meth c H locs (1009 + 2 * ii) (100145 + 25 * ii) (lw_Z below #[Value.ref sb] s) (F0 m 2459 ls [])) (H : Heap) (locs : List Loc) (ls : Array Slot) (XT M : va_W) (sw sn ki mw mn kp : Nat → Int32) (hXT : XTSt cI cJ cB cZ cL x sw sn ki XT) (hM : MSt cI cJ cB cZ cL y mw mn kp M) (hJ : JJ sw sn ki mw mn kp) (hP : va_P g vwCl (XT ++ M) H) (hD : va_D (fun q : Nat => s.heap.size ≤ q) (XT ++ M)) (hS : va_S (fun q : Nat => s.heap.size ≤ q) s.heap H locs) (hl : lv_has ls 4 [(0, .ref sb), (1, .ref x), (2, .ref y), (3, .int (nI ii))]) : W p l e room_1 s m #[Value.ref sb] below meth c H locs (1000 + 2 * ii) (100000 + 25 * ii) (lw_Z below #[Value.ref sb] s) (F0 m 1075 ls []) := by
  obtain ⟨hx, hb, hr, hml, hown, hts0, hX, hbl, hlocks, hgv⟩ := id C0
  have hts : ∀ w ∈ v_L_law, w.before #[Value.ref sb] s = true := fun w h => hts0 w (in_v_L_law w h)
  have hown : s.vm.findClass RL = some m.cls := hown
  have hA : ∀ q : Nat, s.heap.size ≤ q → (fun q : Nat => s.heap.size ≤ q) q := fun _ h => h
  have hbA : ¬ (fun q : Nat => s.heap.size ≤ q) sb := Nat.not_le.mpr hbl
  refine lv_aload_n hx hb dL_law_1075 rfl (lv_at hl 1 rfl) ?_
  refine lv_aload_n hx hb dL_law_1076 rfl (lv_at hl 0 rfl) ?_
  refine lv_iload_n hx hb dL_law_1077 rfl (lv_at hl 3 rfl) ?_
  refine lv_iconst (v := 1) hx hb dL_law_1078 (by decide) ?_
  refine lv_iadd hx hb dL_law_1079 ?_
  refine va_sld hx hb hX hbl hbA hS (lw_ix 1 h6 hL (by decide)) dL_law_1080 ?_
  refine lv_topi (nm_r (e' := xs (nI ii + 1).toNatClampNeg) rfl ?_)
  refine lv_aload_n hx hb dL_law_1081 rfl (lv_at hl 0 rfl) ?_
  refine lv_iload_n hx hb dL_law_1082 rfl (lv_at hl 3 rfl) ?_
  refine lv_iconst (v := 2) hx hb dL_law_1083 (by decide) ?_
  refine lv_iadd hx hb dL_law_1084 ?_
  refine va_sld hx hb hX hbl hbA hS (lw_ix 2 h6 hL (by decide)) dL_law_1085 ?_
  refine lv_topi (nm_r (e' := xs (nI ii + 2).toNatClampNeg) rfl ?_)
  refine lv_aload_n hx hb dL_law_1086 rfl (lv_at hl 0 rfl) ?_
  refine lv_iload_n hx hb dL_law_1087 rfl (lv_at hl 3 rfl) ?_
  refine lv_iconst (v := 3) hx hb dL_law_1088 (by decide) ?_
  refine lv_iadd hx hb dL_law_1089 ?_
  refine va_sld hx hb hX hbl hbA hS (lw_ix 3 h6 hL (by decide)) dL_law_1090 ?_
  refine lv_topi (nm_r (e' := xs (nI ii + 3).toNatClampNeg) rfl ?_)
  refine lc_i (X := XT) (Rr := M) (va_runV (As := [.int (xs (nI ii + 1).toNatClampNeg), .int (xs (nI ii + 2).toNatClampNeg), .int (xs (nI ii + 3).toNatClampNeg)]) (rest := []) ⟨hx, hb, hml, hown, hts⟩ (lift_i (fun im X hX => cx_basin l g cI cJ cB cZ cL kA vA x im X H.size hX (xs (nI ii + 1).toNatClampNeg) (xs (nI ii + 2).toNatClampNeg) (xs (nI ii + 3).toNatClampNeg)) hXT) (cwV 3 hts (goodIn_app (g_4 (List.mem_cons_of_mem _ (List.mem_append_left _ (List.mem_of_getElem? (i := 152) rfl))) (List.mem_cons_of_mem _ (List.mem_append_left _ (List.mem_of_getElem? (i := 153) rfl))) (List.mem_cons_of_mem _ (List.mem_append_left _ (List.mem_of_getElem? (i := 154) rfl))) (List.mem_cons_of_mem _ (List.mem_append_left _ (List.mem_of_getElem? (i := 3) rfl))) (by decide +kernel)) (goodIn_sub ml_v_fX11_basin good_v_fX11_basin)) rfl rfl rfl (by decide +kernel) ⟨Nat.le_of_ble_eq_true rfl, Nat.le_of_ble_eq_true rfl⟩) (lc_pre (ci := 10) (q := (RX11, TX11, 11)) hK hE hS hA hP hD rfl (xt_mem hXT)) rfl rfl hl.1 rfl (lv_room (Nat.le_of_ble_eq_true rfl)) dL_law_1091 ⟨(by show (1000 + 2 * ii) + 0 ≤ 600000; omega), (by show (100000 + 25 * ii) + 0 ≤ 7302250; omega)⟩) hS hA hP hD (fun r1091 W1 H locs hz1091 hP hD hS => ?_)
  obtain ⟨hr1091, hW1⟩ := hz1091
  refine lv_pop hx hb dL_law_1094 rfl ?_
  refine lv_aload_n hx hb dL_law_1095 rfl (lv_at hl 2 rfl) ?_
  refine lv_aload_n hx hb dL_law_1096 rfl (lv_at hl 0 rfl) ?_
  refine lv_iload_n hx hb dL_law_1097 rfl (lv_at hl 3 rfl) ?_
  refine lv_iconst (v := 1) hx hb dL_law_1098 (by decide) ?_
  refine lv_iadd hx hb dL_law_1099 ?_
  refine va_sld hx hb hX hbl hbA hS (lw_ix 1 h6 hL (by decide)) dL_law_1100 ?_
  refine lv_topi (nm_r (e' := xs (nI ii + 1).toNatClampNeg) rfl ?_)
  refine lv_aload_n hx hb dL_law_1101 rfl (lv_at hl 0 rfl) ?_
  refine lv_iload_n hx hb dL_law_1102 rfl (lv_at hl 3 rfl) ?_
  refine lv_iconst (v := 2) hx hb dL_law_1103 (by decide) ?_
  refine lv_iadd hx hb dL_law_1104 ?_
  refine va_sld hx hb hX hbl hbA hS (lw_ix 2 h6 hL (by decide)) dL_law_1105 ?_
  refine lv_topi (nm_r (e' := xs (nI ii + 2).toNatClampNeg) rfl ?_)
  refine lv_aload_n hx hb dL_law_1106 rfl (lv_at hl 0 rfl) ?_
  refine lv_iload_n hx hb dL_law_1107 rfl (lv_at hl 3 rfl) ?_
  refine lv_iconst (v := 3) hx hb dL_law_1108 (by decide) ?_
  refine lv_iadd hx hb dL_law_1109 ?_
  refine va_sld hx hb hX hbl hbA hS (lw_ix 3 h6 hL (by decide)) dL_law_1110 ?_
  refine lv_topi (nm_r (e' := xs (nI ii + 3).toNatClampNeg) rfl ?_)
  have hP := pm_Pp List.perm_append_comm hP
  have hD := pm_Dp List.perm_append_comm hD
  refine lc_i (X := M) (Rr := W1) (va_runV (As := [.int (xs (nI ii + 1).toNatClampNeg), .int (xs (nI ii + 2).toNatClampNeg), .int (xs (nI ii + 3).toNatClampNeg)]) (rest := []) ⟨hx, hb, hml, hown, hts⟩ (cm_basin l g cI cJ cB cZ cL kA vA y M H.size hM (xs (nI ii + 1).toNatClampNeg) (xs (nI ii + 2).toNatClampNeg) (xs (nI ii + 3).toNatClampNeg)) (cwV 3 hts (goodIn_app (g_4 (List.mem_cons_of_mem _ (List.mem_append_left _ (List.mem_of_getElem? (i := 155) rfl))) (List.mem_cons_of_mem _ (List.mem_append_left _ (List.mem_of_getElem? (i := 156) rfl))) (List.mem_cons_of_mem _ (List.mem_append_left _ (List.mem_of_getElem? (i := 157) rfl))) (List.mem_cons_of_mem _ (List.mem_append_left _ (List.mem_of_getElem? (i := 7) rfl))) (by decide +kernel)) (goodIn_sub ml_v_fX12_basin good_v_fX12_basin)) rfl rfl rfl (by decide +kernel) ⟨Nat.le_of_ble_eq_true rfl, Nat.le_of_ble_eq_true rfl⟩) (lc_pre (ci := 11) (q := (RX12, TX12, 56)) hK hE hS hA hP hD rfl (mt_mem hM)) rfl rfl hl.1 rfl (lv_room (Nat.le_of_ble_eq_true rfl)) dL_law_1111 ⟨(by show (1000 + 2 * ii) + 0 + 0 ≤ 600000; omega), (by show (100000 + 25 * ii) + 0 + 0 ≤ 7302250; omega)⟩) hS hA hP hD (fun r1111 W2 H locs hz1111 hP hD hS => ?_)
  obtain ⟨hr1111, hW2⟩ := hz1111
  have hP := pm_Pp List.perm_append_comm hP
  have hD := pm_Dp List.perm_append_comm hD
  refine lv_pop hx hb dL_law_1114 rfl ?_
  refine lv_goto (tgt := 2459) hx hb dL_law_1115 (by decide) ?_
  refine W.widen (k := 1009 + 2 * ii) (n := 100145 + 25 * ii) (by omega) (by omega) ?_
  exact hend _ _ _ W1 W2 _ _ _ _ _ _ hW1 hW2 hJ hP hD hS hl
set_option maxHeartbeats 4000000 in
set_option maxRecDepth 100000 in
theorem lw_c26 {p : Program} {e : Env} {s : State} {m : MethodId} {below : List Frame} {meth : Method} {c : Code} (l : Launch) {sb L : Nat} {xs : Nat → Int32} (hL : L ≤ 3072) (C0 : lw_At p s m meth c sb L xs) {g : va_G} {cI cJ cB cZ cL : ClassId} (hK : va_K g vwCl (tyT cI cJ cB cZ cL) s) {kA vA : Nat → Nat} (hE : ENV kA vA (fun q : Nat => s.heap.size ≤ q) s) {x y : Nat} {ii : Nat} (h6 : ii + 6 ≤ L) (hend : ∀ (H : Heap) (locs : List Loc) (ls : Array Slot) (XT M : va_W) (sw sn ki mw mn kp : Nat → Int32) (hXT : XTSt cI cJ cB cZ cL x sw sn ki XT) (hM : MSt cI cJ cB cZ cL y mw mn kp M) (hJ : JJ sw sn ki mw mn kp) (hP : va_P g vwCl (XT ++ M) H) (hD : va_D (fun q : Nat => s.heap.size ≤ q) (XT ++ M)) (hS : va_S (fun q : Nat => s.heap.size ≤ q) s.heap H locs) (hl : lv_has ls 4 [(0, .ref sb), (1, .ref x), (2, .ref y), (3, .int (nI ii))]), W p l e room_1 s m #[Value.ref sb] below meth c H locs (1009 + 2 * ii) (100145 + 25 * ii) (lw_Z below #[Value.ref sb] s) (F0 m 2459 ls [])) (H : Heap) (locs : List Loc) (ls : Array Slot) (XT M : va_W) (sw sn ki mw mn kp : Nat → Int32) (hXT : XTSt cI cJ cB cZ cL x sw sn ki XT) (hM : MSt cI cJ cB cZ cL y mw mn kp M) (hJ : JJ sw sn ki mw mn kp) (hP : va_P g vwCl (XT ++ M) H) (hD : va_D (fun q : Nat => s.heap.size ≤ q) (XT ++ M)) (hS : va_S (fun q : Nat => s.heap.size ≤ q) s.heap H locs) (hl : lv_has ls 4 [(0, .ref sb), (1, .ref x), (2, .ref y), (3, .int (nI ii))]) : W p l e room_1 s m #[Value.ref sb] below meth c H locs (1000 + 2 * ii) (100000 + 25 * ii) (lw_Z below #[Value.ref sb] s) (F0 m 1118 ls []) := by
  obtain ⟨hx, hb, hr, hml, hown, hts0, hX, hbl, hlocks, hgv⟩ := id C0
  have hts : ∀ w ∈ v_L_law, w.before #[Value.ref sb] s = true := fun w h => hts0 w (in_v_L_law w h)
  have hown : s.vm.findClass RL = some m.cls := hown
  have hA : ∀ q : Nat, s.heap.size ≤ q → (fun q : Nat => s.heap.size ≤ q) q := fun _ h => h
  have hbA : ¬ (fun q : Nat => s.heap.size ≤ q) sb := Nat.not_le.mpr hbl
  refine lv_aload_n hx hb dL_law_1118 rfl (lv_at hl 1 rfl) ?_
  refine lv_aload_n hx hb dL_law_1119 rfl (lv_at hl 0 rfl) ?_
  refine lv_iload_n hx hb dL_law_1120 rfl (lv_at hl 3 rfl) ?_
  refine lv_iconst (v := 1) hx hb dL_law_1121 (by decide) ?_
  refine lv_iadd hx hb dL_law_1122 ?_
  refine va_sld hx hb hX hbl hbA hS (lw_ix 1 h6 hL (by decide)) dL_law_1123 ?_
  refine lv_topi (nm_r (e' := xs (nI ii + 1).toNatClampNeg) rfl ?_)
  refine lv_aload_n hx hb dL_law_1124 rfl (lv_at hl 0 rfl) ?_
  refine lv_iload_n hx hb dL_law_1125 rfl (lv_at hl 3 rfl) ?_
  refine lv_iconst (v := 2) hx hb dL_law_1126 (by decide) ?_
  refine lv_iadd hx hb dL_law_1127 ?_
  refine va_sld hx hb hX hbl hbA hS (lw_ix 2 h6 hL (by decide)) dL_law_1128 ?_
  refine lv_topi (nm_r (e' := xs (nI ii + 2).toNatClampNeg) rfl ?_)
  refine lc_i (X := XT) (Rr := M) (va_runV (As := [.int (xs (nI ii + 1).toNatClampNeg), .int (xs (nI ii + 2).toNatClampNeg)]) (rest := []) ⟨hx, hb, hml, hown, hts⟩ (lift_i (fun im X hX => cx_longest l g cI cJ cB cZ cL kA vA x im X H.size hX (xs (nI ii + 1).toNatClampNeg) (xs (nI ii + 2).toNatClampNeg)) hXT) (cwV 2 hts (goodIn_app (g_4 (List.mem_cons_of_mem _ (List.mem_append_left _ (List.mem_of_getElem? (i := 158) rfl))) (List.mem_cons_of_mem _ (List.mem_append_left _ (List.mem_of_getElem? (i := 159) rfl))) (List.mem_cons_of_mem _ (List.mem_append_left _ (List.mem_of_getElem? (i := 160) rfl))) (List.mem_cons_of_mem _ (List.mem_append_left _ (List.mem_of_getElem? (i := 3) rfl))) (by decide +kernel)) (goodIn_sub ml_v_fX11_longest good_v_fX11_longest)) rfl rfl rfl (by decide +kernel) ⟨Nat.le_of_ble_eq_true rfl, Nat.le_of_ble_eq_true rfl⟩) (lc_pre (ci := 10) (q := (RX11, TX11, 11)) hK hE hS hA hP hD rfl (xt_mem hXT)) rfl rfl hl.1 rfl (lv_room (Nat.le_of_ble_eq_true rfl)) dL_law_1129 ⟨(by show (1000 + 2 * ii) + 0 ≤ 600000; omega), (by show (100000 + 25 * ii) + 0 ≤ 7302250; omega)⟩) hS hA hP hD (fun r1129 W1 H locs hz1129 hP hD hS => ?_)
  obtain ⟨hr1129, hW1⟩ := hz1129
  refine lv_pop hx hb dL_law_1132 rfl ?_
  refine lv_aload_n hx hb dL_law_1133 rfl (lv_at hl 2 rfl) ?_
  refine lv_aload_n hx hb dL_law_1134 rfl (lv_at hl 0 rfl) ?_
  refine lv_iload_n hx hb dL_law_1135 rfl (lv_at hl 3 rfl) ?_
  refine lv_iconst (v := 1) hx hb dL_law_1136 (by decide) ?_
  refine lv_iadd hx hb dL_law_1137 ?_
  refine va_sld hx hb hX hbl hbA hS (lw_ix 1 h6 hL (by decide)) dL_law_1138 ?_
  refine lv_topi (nm_r (e' := xs (nI ii + 1).toNatClampNeg) rfl ?_)
  refine lv_aload_n hx hb dL_law_1139 rfl (lv_at hl 0 rfl) ?_
  refine lv_iload_n hx hb dL_law_1140 rfl (lv_at hl 3 rfl) ?_
  refine lv_iconst (v := 2) hx hb dL_law_1141 (by decide) ?_
  refine lv_iadd hx hb dL_law_1142 ?_
  refine va_sld hx hb hX hbl hbA hS (lw_ix 2 h6 hL (by decide)) dL_law_1143 ?_
  refine lv_topi (nm_r (e' := xs (nI ii + 2).toNatClampNeg) rfl ?_)
  have hP := pm_Pp List.perm_append_comm hP
  have hD := pm_Dp List.perm_append_comm hD
  refine lc_i (X := M) (Rr := W1) (va_runV (As := [.int (xs (nI ii + 1).toNatClampNeg), .int (xs (nI ii + 2).toNatClampNeg)]) (rest := []) ⟨hx, hb, hml, hown, hts⟩ (cm_longest l g cI cJ cB cZ cL kA vA y M H.size hM (xs (nI ii + 1).toNatClampNeg) (xs (nI ii + 2).toNatClampNeg)) (cwV 2 hts (goodIn_app (g_4 (List.mem_cons_of_mem _ (List.mem_append_left _ (List.mem_of_getElem? (i := 161) rfl))) (List.mem_cons_of_mem _ (List.mem_append_left _ (List.mem_of_getElem? (i := 162) rfl))) (List.mem_cons_of_mem _ (List.mem_append_left _ (List.mem_of_getElem? (i := 163) rfl))) (List.mem_cons_of_mem _ (List.mem_append_left _ (List.mem_of_getElem? (i := 7) rfl))) (by decide +kernel)) (goodIn_sub ml_v_fX12_longest good_v_fX12_longest)) rfl rfl rfl (by decide +kernel) ⟨Nat.le_of_ble_eq_true rfl, Nat.le_of_ble_eq_true rfl⟩) (lc_pre (ci := 11) (q := (RX12, TX12, 56)) hK hE hS hA hP hD rfl (mt_mem hM)) rfl rfl hl.1 rfl (lv_room (Nat.le_of_ble_eq_true rfl)) dL_law_1144 ⟨(by show (1000 + 2 * ii) + 0 + 0 ≤ 600000; omega), (by show (100000 + 25 * ii) + 0 + 0 ≤ 7302250; omega)⟩) hS hA hP hD (fun r1144 W2 H locs hz1144 hP hD hS => ?_)
  obtain ⟨hr1144, hW2⟩ := hz1144
  have hP := pm_Pp List.perm_append_comm hP
  have hD := pm_Dp List.perm_append_comm hD
  refine lv_pop hx hb dL_law_1147 rfl ?_
  refine lv_goto (tgt := 2459) hx hb dL_law_1148 (by decide) ?_
  refine W.widen (k := 1009 + 2 * ii) (n := 100145 + 25 * ii) (by omega) (by omega) ?_
  exact hend _ _ _ W1 W2 _ _ _ _ _ _ hW1 hW2 hJ hP hD hS hl
set_option maxHeartbeats 4000000 in
set_option maxRecDepth 100000 in
theorem lw_c27 {p : Program} {e : Env} {s : State} {m : MethodId} {below : List Frame} {meth : Method} {c : Code} (l : Launch) {sb L : Nat} {xs : Nat → Int32} (hL : L ≤ 3072) (C0 : lw_At p s m meth c sb L xs) {g : va_G} {cI cJ cB cZ cL : ClassId} (hK : va_K g vwCl (tyT cI cJ cB cZ cL) s) {kA vA : Nat → Nat} (hE : ENV kA vA (fun q : Nat => s.heap.size ≤ q) s) {x y : Nat} {ii : Nat} (h6 : ii + 6 ≤ L) (hend : ∀ (H : Heap) (locs : List Loc) (ls : Array Slot) (XT M : va_W) (sw sn ki mw mn kp : Nat → Int32) (hXT : XTSt cI cJ cB cZ cL x sw sn ki XT) (hM : MSt cI cJ cB cZ cL y mw mn kp M) (hJ : JJ sw sn ki mw mn kp) (hP : va_P g vwCl (XT ++ M) H) (hD : va_D (fun q : Nat => s.heap.size ≤ q) (XT ++ M)) (hS : va_S (fun q : Nat => s.heap.size ≤ q) s.heap H locs) (hl : lv_has ls 4 [(0, .ref sb), (1, .ref x), (2, .ref y), (3, .int (nI ii))]), W p l e room_1 s m #[Value.ref sb] below meth c H locs (1009 + 2 * ii) (100145 + 25 * ii) (lw_Z below #[Value.ref sb] s) (F0 m 2459 ls [])) (H : Heap) (locs : List Loc) (ls : Array Slot) (XT M : va_W) (sw sn ki mw mn kp : Nat → Int32) (hXT : XTSt cI cJ cB cZ cL x sw sn ki XT) (hM : MSt cI cJ cB cZ cL y mw mn kp M) (hJ : JJ sw sn ki mw mn kp) (hP : va_P g vwCl (XT ++ M) H) (hD : va_D (fun q : Nat => s.heap.size ≤ q) (XT ++ M)) (hS : va_S (fun q : Nat => s.heap.size ≤ q) s.heap H locs) (hl : lv_has ls 4 [(0, .ref sb), (1, .ref x), (2, .ref y), (3, .int (nI ii))]) : W p l e room_1 s m #[Value.ref sb] below meth c H locs (1000 + 2 * ii) (100000 + 25 * ii) (lw_Z below #[Value.ref sb] s) (F0 m 1151 ls []) := by
  obtain ⟨hx, hb, hr, hml, hown, hts0, hX, hbl, hlocks, hgv⟩ := id C0
  have hts : ∀ w ∈ v_L_law, w.before #[Value.ref sb] s = true := fun w h => hts0 w (in_v_L_law w h)
  have hown : s.vm.findClass RL = some m.cls := hown
  have hA : ∀ q : Nat, s.heap.size ≤ q → (fun q : Nat => s.heap.size ≤ q) q := fun _ h => h
  have hbA : ¬ (fun q : Nat => s.heap.size ≤ q) sb := Nat.not_le.mpr hbl
  refine lv_aload_n hx hb dL_law_1151 rfl (lv_at hl 1 rfl) ?_
  refine lv_aload_n hx hb dL_law_1152 rfl (lv_at hl 0 rfl) ?_
  refine lv_iload_n hx hb dL_law_1153 rfl (lv_at hl 3 rfl) ?_
  refine lv_iconst (v := 1) hx hb dL_law_1154 (by decide) ?_
  refine lv_iadd hx hb dL_law_1155 ?_
  refine va_sld hx hb hX hbl hbA hS (lw_ix 1 h6 hL (by decide)) dL_law_1156 ?_
  refine lv_topi (nm_r (e' := xs (nI ii + 1).toNatClampNeg) rfl ?_)
  refine lc_i (X := XT) (Rr := M) (va_runV (As := [.int (xs (nI ii + 1).toNatClampNeg)]) (rest := []) ⟨hx, hb, hml, hown, hts⟩ (lift_i (fun im X hX => cx_faithful l g cI cJ cB cZ cL kA vA x im X H.size hX (xs (nI ii + 1).toNatClampNeg)) hXT) (cwV 1 hts (goodIn_app (g_4 (List.mem_cons_of_mem _ (List.mem_append_left _ (List.mem_of_getElem? (i := 164) rfl))) (List.mem_cons_of_mem _ (List.mem_append_left _ (List.mem_of_getElem? (i := 165) rfl))) (List.mem_cons_of_mem _ (List.mem_append_left _ (List.mem_of_getElem? (i := 166) rfl))) (List.mem_cons_of_mem _ (List.mem_append_left _ (List.mem_of_getElem? (i := 3) rfl))) (by decide +kernel)) (goodIn_sub ml_v_fX11_faithful good_v_fX11_faithful)) rfl rfl rfl (by decide +kernel) ⟨Nat.le_of_ble_eq_true rfl, Nat.le_of_ble_eq_true rfl⟩) (lc_pre (ci := 10) (q := (RX11, TX11, 11)) hK hE hS hA hP hD rfl (xt_mem hXT)) rfl rfl hl.1 rfl (lv_room (Nat.le_of_ble_eq_true rfl)) dL_law_1157 ⟨(by show (1000 + 2 * ii) + 0 ≤ 600000; omega), (by show (100000 + 25 * ii) + 0 ≤ 7302250; omega)⟩) hS hA hP hD (fun r1157 W1 H locs hz1157 hP hD hS => ?_)
  obtain ⟨hr1157, hW1⟩ := hz1157
  refine lv_pop hx hb dL_law_1160 rfl ?_
  refine lv_aload_n hx hb dL_law_1161 rfl (lv_at hl 2 rfl) ?_
  refine lv_aload_n hx hb dL_law_1162 rfl (lv_at hl 0 rfl) ?_
  refine lv_iload_n hx hb dL_law_1163 rfl (lv_at hl 3 rfl) ?_
  refine lv_iconst (v := 1) hx hb dL_law_1164 (by decide) ?_
  refine lv_iadd hx hb dL_law_1165 ?_
  refine va_sld hx hb hX hbl hbA hS (lw_ix 1 h6 hL (by decide)) dL_law_1166 ?_
  refine lv_topi (nm_r (e' := xs (nI ii + 1).toNatClampNeg) rfl ?_)
  have hP := pm_Pp List.perm_append_comm hP
  have hD := pm_Dp List.perm_append_comm hD
  refine lc_i (X := M) (Rr := W1) (va_runV (As := [.int (xs (nI ii + 1).toNatClampNeg)]) (rest := []) ⟨hx, hb, hml, hown, hts⟩ (cm_faithful l g cI cJ cB cZ cL kA vA y M H.size hM (xs (nI ii + 1).toNatClampNeg)) (cwV 1 hts (goodIn_app (g_4 (List.mem_cons_of_mem _ (List.mem_append_left _ (List.mem_of_getElem? (i := 167) rfl))) (List.mem_cons_of_mem _ (List.mem_append_left _ (List.mem_of_getElem? (i := 168) rfl))) (List.mem_cons_of_mem _ (List.mem_append_left _ (List.mem_of_getElem? (i := 169) rfl))) (List.mem_cons_of_mem _ (List.mem_append_left _ (List.mem_of_getElem? (i := 7) rfl))) (by decide +kernel)) (goodIn_sub ml_v_fX12_faithful good_v_fX12_faithful)) rfl rfl rfl (by decide +kernel) ⟨Nat.le_of_ble_eq_true rfl, Nat.le_of_ble_eq_true rfl⟩) (lc_pre (ci := 11) (q := (RX12, TX12, 56)) hK hE hS hA hP hD rfl (mt_mem hM)) rfl rfl hl.1 rfl (lv_room (Nat.le_of_ble_eq_true rfl)) dL_law_1167 ⟨(by show (1000 + 2 * ii) + 0 + 0 ≤ 600000; omega), (by show (100000 + 25 * ii) + 0 + 0 ≤ 7302250; omega)⟩) hS hA hP hD (fun r1167 W2 H locs hz1167 hP hD hS => ?_)
  obtain ⟨hr1167, hW2⟩ := hz1167
  have hP := pm_Pp List.perm_append_comm hP
  have hD := pm_Dp List.perm_append_comm hD
  refine lv_pop hx hb dL_law_1170 rfl ?_
  refine lv_goto (tgt := 2459) hx hb dL_law_1171 (by decide) ?_
  refine W.widen (k := 1009 + 2 * ii) (n := 100145 + 25 * ii) (by omega) (by omega) ?_
  exact hend _ _ _ W1 W2 _ _ _ _ _ _ hW1 hW2 hJ hP hD hS hl
set_option maxHeartbeats 4000000 in
set_option maxRecDepth 100000 in
theorem lw_c28 {p : Program} {e : Env} {s : State} {m : MethodId} {below : List Frame} {meth : Method} {c : Code} (l : Launch) {sb L : Nat} {xs : Nat → Int32} (hL : L ≤ 3072) (C0 : lw_At p s m meth c sb L xs) {g : va_G} {cI cJ cB cZ cL : ClassId} (hK : va_K g vwCl (tyT cI cJ cB cZ cL) s) {kA vA : Nat → Nat} (hE : ENV kA vA (fun q : Nat => s.heap.size ≤ q) s) {x y : Nat} {ii : Nat} (h6 : ii + 6 ≤ L) (hend : ∀ (H : Heap) (locs : List Loc) (ls : Array Slot) (XT M : va_W) (sw sn ki mw mn kp : Nat → Int32) (hXT : XTSt cI cJ cB cZ cL x sw sn ki XT) (hM : MSt cI cJ cB cZ cL y mw mn kp M) (hJ : JJ sw sn ki mw mn kp) (hP : va_P g vwCl (XT ++ M) H) (hD : va_D (fun q : Nat => s.heap.size ≤ q) (XT ++ M)) (hS : va_S (fun q : Nat => s.heap.size ≤ q) s.heap H locs) (hl : lv_has ls 4 [(0, .ref sb), (1, .ref x), (2, .ref y), (3, .int (nI ii))]), W p l e room_1 s m #[Value.ref sb] below meth c H locs (1009 + 2 * ii) (100145 + 25 * ii) (lw_Z below #[Value.ref sb] s) (F0 m 2459 ls [])) (H : Heap) (locs : List Loc) (ls : Array Slot) (XT M : va_W) (sw sn ki mw mn kp : Nat → Int32) (hXT : XTSt cI cJ cB cZ cL x sw sn ki XT) (hM : MSt cI cJ cB cZ cL y mw mn kp M) (hJ : JJ sw sn ki mw mn kp) (hP : va_P g vwCl (XT ++ M) H) (hD : va_D (fun q : Nat => s.heap.size ≤ q) (XT ++ M)) (hS : va_S (fun q : Nat => s.heap.size ≤ q) s.heap H locs) (hl : lv_has ls 4 [(0, .ref sb), (1, .ref x), (2, .ref y), (3, .int (nI ii))]) : W p l e room_1 s m #[Value.ref sb] below meth c H locs (1000 + 2 * ii) (100000 + 25 * ii) (lw_Z below #[Value.ref sb] s) (F0 m 1174 ls []) := by
  obtain ⟨hx, hb, hr, hml, hown, hts0, hX, hbl, hlocks, hgv⟩ := id C0
  have hts : ∀ w ∈ v_L_law, w.before #[Value.ref sb] s = true := fun w h => hts0 w (in_v_L_law w h)
  have hown : s.vm.findClass RL = some m.cls := hown
  have hA : ∀ q : Nat, s.heap.size ≤ q → (fun q : Nat => s.heap.size ≤ q) q := fun _ h => h
  have hbA : ¬ (fun q : Nat => s.heap.size ≤ q) sb := Nat.not_le.mpr hbl
  refine lv_aload_n hx hb dL_law_1174 rfl (lv_at hl 1 rfl) ?_
  refine lv_aload_n hx hb dL_law_1175 rfl (lv_at hl 0 rfl) ?_
  refine lv_iload_n hx hb dL_law_1176 rfl (lv_at hl 3 rfl) ?_
  refine lv_iconst (v := 1) hx hb dL_law_1177 (by decide) ?_
  refine lv_iadd hx hb dL_law_1178 ?_
  refine va_sld hx hb hX hbl hbA hS (lw_ix 1 h6 hL (by decide)) dL_law_1179 ?_
  refine lv_topi (nm_r (e' := xs (nI ii + 1).toNatClampNeg) rfl ?_)
  refine lv_aload_n hx hb dL_law_1180 rfl (lv_at hl 0 rfl) ?_
  refine lv_iload_n hx hb dL_law_1181 rfl (lv_at hl 3 rfl) ?_
  refine lv_iconst (v := 2) hx hb dL_law_1182 (by decide) ?_
  refine lv_iadd hx hb dL_law_1183 ?_
  refine va_sld hx hb hX hbl hbA hS (lw_ix 2 h6 hL (by decide)) dL_law_1184 ?_
  refine lv_topi (nm_r (e' := xs (nI ii + 2).toNatClampNeg) rfl ?_)
  refine lv_aload_n hx hb dL_law_1185 rfl (lv_at hl 0 rfl) ?_
  refine lv_iload_n hx hb dL_law_1186 rfl (lv_at hl 3 rfl) ?_
  refine lv_iconst (v := 3) hx hb dL_law_1187 (by decide) ?_
  refine lv_iadd hx hb dL_law_1188 ?_
  refine va_sld hx hb hX hbl hbA hS (lw_ix 3 h6 hL (by decide)) dL_law_1189 ?_
  refine lv_topi (nm_r (e' := xs (nI ii + 3).toNatClampNeg) rfl ?_)
  refine lc_i (X := XT) (Rr := M) (va_runV (As := [.int (xs (nI ii + 1).toNatClampNeg), .int (xs (nI ii + 2).toNatClampNeg), .int (xs (nI ii + 3).toNatClampNeg)]) (rest := []) ⟨hx, hb, hml, hown, hts⟩ (lift_i (fun im X hX => cx_X11_lost l g cI cJ cB cZ cL kA vA x im X H.size hX (xs (nI ii + 1).toNatClampNeg) (xs (nI ii + 2).toNatClampNeg) (xs (nI ii + 3).toNatClampNeg)) hXT) (cwV 3 hts (goodIn_app (g_4 (List.mem_cons_of_mem _ (List.mem_append_left _ (List.mem_of_getElem? (i := 170) rfl))) (List.mem_cons_of_mem _ (List.mem_append_left _ (List.mem_of_getElem? (i := 171) rfl))) (List.mem_cons_of_mem _ (List.mem_append_left _ (List.mem_of_getElem? (i := 172) rfl))) (List.mem_cons_of_mem _ (List.mem_append_left _ (List.mem_of_getElem? (i := 3) rfl))) (by decide +kernel)) (goodIn_sub ml_v_X11_lost good_v_X11_lost)) rfl rfl rfl (by decide +kernel) ⟨Nat.le_of_ble_eq_true rfl, Nat.le_of_ble_eq_true rfl⟩) (lc_pre (ci := 10) (q := (RX11, TX11, 11)) hK hE hS hA hP hD rfl (xt_mem hXT)) rfl rfl hl.1 rfl (lv_room (Nat.le_of_ble_eq_true rfl)) dL_law_1190 ⟨(by show (1000 + 2 * ii) + 0 ≤ 600000; omega), (by show (100000 + 25 * ii) + 0 ≤ 7302250; omega)⟩) hS hA hP hD (fun r1190 W1 H locs hz1190 hP hD hS => ?_)
  obtain ⟨hr1190, hW1⟩ := hz1190
  refine lv_pop hx hb dL_law_1193 rfl ?_
  refine lv_aload_n hx hb dL_law_1194 rfl (lv_at hl 2 rfl) ?_
  refine lv_aload_n hx hb dL_law_1195 rfl (lv_at hl 0 rfl) ?_
  refine lv_iload_n hx hb dL_law_1196 rfl (lv_at hl 3 rfl) ?_
  refine lv_iconst (v := 1) hx hb dL_law_1197 (by decide) ?_
  refine lv_iadd hx hb dL_law_1198 ?_
  refine va_sld hx hb hX hbl hbA hS (lw_ix 1 h6 hL (by decide)) dL_law_1199 ?_
  refine lv_topi (nm_r (e' := xs (nI ii + 1).toNatClampNeg) rfl ?_)
  refine lv_aload_n hx hb dL_law_1200 rfl (lv_at hl 0 rfl) ?_
  refine lv_iload_n hx hb dL_law_1201 rfl (lv_at hl 3 rfl) ?_
  refine lv_iconst (v := 2) hx hb dL_law_1202 (by decide) ?_
  refine lv_iadd hx hb dL_law_1203 ?_
  refine va_sld hx hb hX hbl hbA hS (lw_ix 2 h6 hL (by decide)) dL_law_1204 ?_
  refine lv_topi (nm_r (e' := xs (nI ii + 2).toNatClampNeg) rfl ?_)
  refine lv_aload_n hx hb dL_law_1205 rfl (lv_at hl 0 rfl) ?_
  refine lv_iload_n hx hb dL_law_1206 rfl (lv_at hl 3 rfl) ?_
  refine lv_iconst (v := 3) hx hb dL_law_1207 (by decide) ?_
  refine lv_iadd hx hb dL_law_1208 ?_
  refine va_sld hx hb hX hbl hbA hS (lw_ix 3 h6 hL (by decide)) dL_law_1209 ?_
  refine lv_topi (nm_r (e' := xs (nI ii + 3).toNatClampNeg) rfl ?_)
  have hP := pm_Pp List.perm_append_comm hP
  have hD := pm_Dp List.perm_append_comm hD
  refine lc_i (X := M) (Rr := W1) (va_runV (As := [.int (xs (nI ii + 1).toNatClampNeg), .int (xs (nI ii + 2).toNatClampNeg), .int (xs (nI ii + 3).toNatClampNeg)]) (rest := []) ⟨hx, hb, hml, hown, hts⟩ (cm_X12_lost l g cI cJ cB cZ cL kA vA y M H.size hM (xs (nI ii + 1).toNatClampNeg) (xs (nI ii + 2).toNatClampNeg) (xs (nI ii + 3).toNatClampNeg)) (cwV 3 hts (goodIn_app (g_4 (List.mem_cons_of_mem _ (List.mem_append_left _ (List.mem_of_getElem? (i := 173) rfl))) (List.mem_cons_of_mem _ (List.mem_append_left _ (List.mem_of_getElem? (i := 174) rfl))) (List.mem_cons_of_mem _ (List.mem_append_left _ (List.mem_of_getElem? (i := 175) rfl))) (List.mem_cons_of_mem _ (List.mem_append_left _ (List.mem_of_getElem? (i := 7) rfl))) (by decide +kernel)) (goodIn_sub ml_v_X12_lost good_v_X12_lost)) rfl rfl rfl (by decide +kernel) ⟨Nat.le_of_ble_eq_true rfl, Nat.le_of_ble_eq_true rfl⟩) (lc_pre (ci := 11) (q := (RX12, TX12, 56)) hK hE hS hA hP hD rfl (mt_mem hM)) rfl rfl hl.1 rfl (lv_room (Nat.le_of_ble_eq_true rfl)) dL_law_1210 ⟨(by show (1000 + 2 * ii) + 0 + 0 ≤ 600000; omega), (by show (100000 + 25 * ii) + 0 + 0 ≤ 7302250; omega)⟩) hS hA hP hD (fun r1210 W2 H locs hz1210 hP hD hS => ?_)
  obtain ⟨hr1210, hW2⟩ := hz1210
  have hP := pm_Pp List.perm_append_comm hP
  have hD := pm_Dp List.perm_append_comm hD
  refine lv_pop hx hb dL_law_1213 rfl ?_
  refine lv_goto (tgt := 2459) hx hb dL_law_1214 (by decide) ?_
  refine W.widen (k := 1009 + 2 * ii) (n := 100145 + 25 * ii) (by omega) (by omega) ?_
  exact hend _ _ _ W1 W2 _ _ _ _ _ _ hW1 hW2 hJ hP hD hS hl
set_option maxHeartbeats 4000000 in
set_option maxRecDepth 100000 in
theorem lw_c29 {p : Program} {e : Env} {s : State} {m : MethodId} {below : List Frame} {meth : Method} {c : Code} (l : Launch) {sb L : Nat} {xs : Nat → Int32} (hL : L ≤ 3072) (C0 : lw_At p s m meth c sb L xs) {g : va_G} {cI cJ cB cZ cL : ClassId} (hK : va_K g vwCl (tyT cI cJ cB cZ cL) s) {kA vA : Nat → Nat} (hE : ENV kA vA (fun q : Nat => s.heap.size ≤ q) s) {x y : Nat} {ii : Nat} (h6 : ii + 6 ≤ L) (hend : ∀ (H : Heap) (locs : List Loc) (ls : Array Slot) (XT M : va_W) (sw sn ki mw mn kp : Nat → Int32) (hXT : XTSt cI cJ cB cZ cL x sw sn ki XT) (hM : MSt cI cJ cB cZ cL y mw mn kp M) (hJ : JJ sw sn ki mw mn kp) (hP : va_P g vwCl (XT ++ M) H) (hD : va_D (fun q : Nat => s.heap.size ≤ q) (XT ++ M)) (hS : va_S (fun q : Nat => s.heap.size ≤ q) s.heap H locs) (hl : lv_has ls 4 [(0, .ref sb), (1, .ref x), (2, .ref y), (3, .int (nI ii))]), W p l e room_1 s m #[Value.ref sb] below meth c H locs (1009 + 2 * ii) (100145 + 25 * ii) (lw_Z below #[Value.ref sb] s) (F0 m 2459 ls [])) (H : Heap) (locs : List Loc) (ls : Array Slot) (XT M : va_W) (sw sn ki mw mn kp : Nat → Int32) (hXT : XTSt cI cJ cB cZ cL x sw sn ki XT) (hM : MSt cI cJ cB cZ cL y mw mn kp M) (hJ : JJ sw sn ki mw mn kp) (hP : va_P g vwCl (XT ++ M) H) (hD : va_D (fun q : Nat => s.heap.size ≤ q) (XT ++ M)) (hS : va_S (fun q : Nat => s.heap.size ≤ q) s.heap H locs) (hl : lv_has ls 4 [(0, .ref sb), (1, .ref x), (2, .ref y), (3, .int (nI ii))]) : W p l e room_1 s m #[Value.ref sb] below meth c H locs (1000 + 2 * ii) (100000 + 25 * ii) (lw_Z below #[Value.ref sb] s) (F0 m 1217 ls []) := by
  obtain ⟨hx, hb, hr, hml, hown, hts0, hX, hbl, hlocks, hgv⟩ := id C0
  have hts : ∀ w ∈ v_L_law, w.before #[Value.ref sb] s = true := fun w h => hts0 w (in_v_L_law w h)
  have hown : s.vm.findClass RL = some m.cls := hown
  have hA : ∀ q : Nat, s.heap.size ≤ q → (fun q : Nat => s.heap.size ≤ q) q := fun _ h => h
  have hbA : ¬ (fun q : Nat => s.heap.size ≤ q) sb := Nat.not_le.mpr hbl
  refine lv_aload_n hx hb dL_law_1217 rfl (lv_at hl 1 rfl) ?_
  refine lv_aload_n hx hb dL_law_1218 rfl (lv_at hl 0 rfl) ?_
  refine lv_iload_n hx hb dL_law_1219 rfl (lv_at hl 3 rfl) ?_
  refine lv_iconst (v := 1) hx hb dL_law_1220 (by decide) ?_
  refine lv_iadd hx hb dL_law_1221 ?_
  refine va_sld hx hb hX hbl hbA hS (lw_ix 1 h6 hL (by decide)) dL_law_1222 ?_
  refine lv_topi (nm_r (e' := xs (nI ii + 1).toNatClampNeg) rfl ?_)
  refine lv_aload_n hx hb dL_law_1223 rfl (lv_at hl 0 rfl) ?_
  refine lv_iload_n hx hb dL_law_1224 rfl (lv_at hl 3 rfl) ?_
  refine lv_iconst (v := 2) hx hb dL_law_1225 (by decide) ?_
  refine lv_iadd hx hb dL_law_1226 ?_
  refine va_sld hx hb hX hbl hbA hS (lw_ix 2 h6 hL (by decide)) dL_law_1227 ?_
  refine lv_topi (nm_r (e' := xs (nI ii + 2).toNatClampNeg) rfl ?_)
  refine lc_i (X := XT) (Rr := M) (va_runV (As := [.int (xs (nI ii + 1).toNatClampNeg), .int (xs (nI ii + 2).toNatClampNeg)]) (rest := []) ⟨hx, hb, hml, hown, hts⟩ (lift_i (fun im X hX => cx_X11_back l g cI cJ cB cZ cL kA vA x im X H.size hX (xs (nI ii + 1).toNatClampNeg) (xs (nI ii + 2).toNatClampNeg)) hXT) (cwV 2 hts (goodIn_app (g_4 (List.mem_cons_of_mem _ (List.mem_append_left _ (List.mem_of_getElem? (i := 176) rfl))) (List.mem_cons_of_mem _ (List.mem_append_left _ (List.mem_of_getElem? (i := 177) rfl))) (List.mem_cons_of_mem _ (List.mem_append_left _ (List.mem_of_getElem? (i := 178) rfl))) (List.mem_cons_of_mem _ (List.mem_append_left _ (List.mem_of_getElem? (i := 3) rfl))) (by decide +kernel)) (goodIn_sub ml_v_X11_back good_v_X11_back)) rfl rfl rfl (by decide +kernel) ⟨Nat.le_of_ble_eq_true rfl, Nat.le_of_ble_eq_true rfl⟩) (lc_pre (ci := 10) (q := (RX11, TX11, 11)) hK hE hS hA hP hD rfl (xt_mem hXT)) rfl rfl hl.1 rfl (lv_room (Nat.le_of_ble_eq_true rfl)) dL_law_1228 ⟨(by show (1000 + 2 * ii) + 0 ≤ 600000; omega), (by show (100000 + 25 * ii) + 0 ≤ 7302250; omega)⟩) hS hA hP hD (fun r1228 W1 H locs hz1228 hP hD hS => ?_)
  obtain ⟨hr1228, hW1⟩ := hz1228
  refine lv_pop hx hb dL_law_1231 rfl ?_
  refine lv_aload_n hx hb dL_law_1232 rfl (lv_at hl 2 rfl) ?_
  refine lv_aload_n hx hb dL_law_1233 rfl (lv_at hl 0 rfl) ?_
  refine lv_iload_n hx hb dL_law_1234 rfl (lv_at hl 3 rfl) ?_
  refine lv_iconst (v := 1) hx hb dL_law_1235 (by decide) ?_
  refine lv_iadd hx hb dL_law_1236 ?_
  refine va_sld hx hb hX hbl hbA hS (lw_ix 1 h6 hL (by decide)) dL_law_1237 ?_
  refine lv_topi (nm_r (e' := xs (nI ii + 1).toNatClampNeg) rfl ?_)
  refine lv_aload_n hx hb dL_law_1238 rfl (lv_at hl 0 rfl) ?_
  refine lv_iload_n hx hb dL_law_1239 rfl (lv_at hl 3 rfl) ?_
  refine lv_iconst (v := 2) hx hb dL_law_1240 (by decide) ?_
  refine lv_iadd hx hb dL_law_1241 ?_
  refine va_sld hx hb hX hbl hbA hS (lw_ix 2 h6 hL (by decide)) dL_law_1242 ?_
  refine lv_topi (nm_r (e' := xs (nI ii + 2).toNatClampNeg) rfl ?_)
  have hP := pm_Pp List.perm_append_comm hP
  have hD := pm_Dp List.perm_append_comm hD
  refine lc_i (X := M) (Rr := W1) (va_runV (As := [.int (xs (nI ii + 1).toNatClampNeg), .int (xs (nI ii + 2).toNatClampNeg)]) (rest := []) ⟨hx, hb, hml, hown, hts⟩ (cm_X12_back l g cI cJ cB cZ cL kA vA y M H.size hM (xs (nI ii + 1).toNatClampNeg) (xs (nI ii + 2).toNatClampNeg)) (cwV 2 hts (goodIn_app (g_4 (List.mem_cons_of_mem _ (List.mem_append_left _ (List.mem_of_getElem? (i := 179) rfl))) (List.mem_cons_of_mem _ (List.mem_append_left _ (List.mem_of_getElem? (i := 180) rfl))) (List.mem_cons_of_mem _ (List.mem_append_left _ (List.mem_of_getElem? (i := 181) rfl))) (List.mem_cons_of_mem _ (List.mem_append_left _ (List.mem_of_getElem? (i := 7) rfl))) (by decide +kernel)) (goodIn_sub ml_v_X12_back good_v_X12_back)) rfl rfl rfl (by decide +kernel) ⟨Nat.le_of_ble_eq_true rfl, Nat.le_of_ble_eq_true rfl⟩) (lc_pre (ci := 11) (q := (RX12, TX12, 56)) hK hE hS hA hP hD rfl (mt_mem hM)) rfl rfl hl.1 rfl (lv_room (Nat.le_of_ble_eq_true rfl)) dL_law_1243 ⟨(by show (1000 + 2 * ii) + 0 + 0 ≤ 600000; omega), (by show (100000 + 25 * ii) + 0 + 0 ≤ 7302250; omega)⟩) hS hA hP hD (fun r1243 W2 H locs hz1243 hP hD hS => ?_)
  obtain ⟨hr1243, hW2⟩ := hz1243
  have hP := pm_Pp List.perm_append_comm hP
  have hD := pm_Dp List.perm_append_comm hD
  refine lv_pop hx hb dL_law_1246 rfl ?_
  refine lv_goto (tgt := 2459) hx hb dL_law_1247 (by decide) ?_
  refine W.widen (k := 1009 + 2 * ii) (n := 100145 + 25 * ii) (by omega) (by omega) ?_
  exact hend _ _ _ W1 W2 _ _ _ _ _ _ hW1 hW2 hJ hP hD hS hl
set_option maxHeartbeats 4000000 in
set_option maxRecDepth 100000 in
theorem lw_c30 {p : Program} {e : Env} {s : State} {m : MethodId} {below : List Frame} {meth : Method} {c : Code} (l : Launch) {sb L : Nat} {xs : Nat → Int32} (hL : L ≤ 3072) (C0 : lw_At p s m meth c sb L xs) {g : va_G} {cI cJ cB cZ cL : ClassId} (hK : va_K g vwCl (tyT cI cJ cB cZ cL) s) {kA vA : Nat → Nat} (hE : ENV kA vA (fun q : Nat => s.heap.size ≤ q) s) {x y : Nat} {ii : Nat} (h6 : ii + 6 ≤ L) (hend : ∀ (H : Heap) (locs : List Loc) (ls : Array Slot) (XT M : va_W) (sw sn ki mw mn kp : Nat → Int32) (hXT : XTSt cI cJ cB cZ cL x sw sn ki XT) (hM : MSt cI cJ cB cZ cL y mw mn kp M) (hJ : JJ sw sn ki mw mn kp) (hP : va_P g vwCl (XT ++ M) H) (hD : va_D (fun q : Nat => s.heap.size ≤ q) (XT ++ M)) (hS : va_S (fun q : Nat => s.heap.size ≤ q) s.heap H locs) (hl : lv_has ls 4 [(0, .ref sb), (1, .ref x), (2, .ref y), (3, .int (nI ii))]), W p l e room_1 s m #[Value.ref sb] below meth c H locs (1009 + 2 * ii) (100145 + 25 * ii) (lw_Z below #[Value.ref sb] s) (F0 m 2459 ls [])) (H : Heap) (locs : List Loc) (ls : Array Slot) (XT M : va_W) (sw sn ki mw mn kp : Nat → Int32) (hXT : XTSt cI cJ cB cZ cL x sw sn ki XT) (hM : MSt cI cJ cB cZ cL y mw mn kp M) (hJ : JJ sw sn ki mw mn kp) (hP : va_P g vwCl (XT ++ M) H) (hD : va_D (fun q : Nat => s.heap.size ≤ q) (XT ++ M)) (hS : va_S (fun q : Nat => s.heap.size ≤ q) s.heap H locs) (hl : lv_has ls 4 [(0, .ref sb), (1, .ref x), (2, .ref y), (3, .int (nI ii))]) : W p l e room_1 s m #[Value.ref sb] below meth c H locs (1000 + 2 * ii) (100000 + 25 * ii) (lw_Z below #[Value.ref sb] s) (F0 m 1250 ls []) := by
  obtain ⟨hx, hb, hr, hml, hown, hts0, hX, hbl, hlocks, hgv⟩ := id C0
  have hts : ∀ w ∈ v_L_law, w.before #[Value.ref sb] s = true := fun w h => hts0 w (in_v_L_law w h)
  have hown : s.vm.findClass RL = some m.cls := hown
  have hA : ∀ q : Nat, s.heap.size ≤ q → (fun q : Nat => s.heap.size ≤ q) q := fun _ h => h
  have hbA : ¬ (fun q : Nat => s.heap.size ≤ q) sb := Nat.not_le.mpr hbl
  refine lv_aload_n hx hb dL_law_1250 rfl (lv_at hl 1 rfl) ?_
  refine lv_aload_n hx hb dL_law_1251 rfl (lv_at hl 0 rfl) ?_
  refine lv_iload_n hx hb dL_law_1252 rfl (lv_at hl 3 rfl) ?_
  refine lv_iconst (v := 1) hx hb dL_law_1253 (by decide) ?_
  refine lv_iadd hx hb dL_law_1254 ?_
  refine va_sld hx hb hX hbl hbA hS (lw_ix 1 h6 hL (by decide)) dL_law_1255 ?_
  refine lv_topi (nm_r (e' := xs (nI ii + 1).toNatClampNeg) rfl ?_)
  refine lc_i (X := XT) (Rr := M) (va_runV (As := [.int (xs (nI ii + 1).toNatClampNeg)]) (rest := []) ⟨hx, hb, hml, hown, hts⟩ (lift_i (fun im X hX => cx_X11_strike l g cI cJ cB cZ cL kA vA x im X H.size hX (xs (nI ii + 1).toNatClampNeg)) hXT) (cwV 1 hts (goodIn_app (g_4 (List.mem_cons_of_mem _ (List.mem_append_left _ (List.mem_of_getElem? (i := 182) rfl))) (List.mem_cons_of_mem _ (List.mem_append_left _ (List.mem_of_getElem? (i := 183) rfl))) (List.mem_cons_of_mem _ (List.mem_append_left _ (List.mem_of_getElem? (i := 184) rfl))) (List.mem_cons_of_mem _ (List.mem_append_left _ (List.mem_of_getElem? (i := 3) rfl))) (by decide +kernel)) (goodIn_sub ml_v_X11_strike good_v_X11_strike)) rfl rfl rfl (by decide +kernel) ⟨Nat.le_of_ble_eq_true rfl, Nat.le_of_ble_eq_true rfl⟩) (lc_pre (ci := 10) (q := (RX11, TX11, 11)) hK hE hS hA hP hD rfl (xt_mem hXT)) rfl rfl hl.1 rfl (lv_room (Nat.le_of_ble_eq_true rfl)) dL_law_1256 ⟨(by show (1000 + 2 * ii) + 0 ≤ 600000; omega), (by show (100000 + 25 * ii) + 0 ≤ 7302250; omega)⟩) hS hA hP hD (fun r1256 W1 H locs hz1256 hP hD hS => ?_)
  obtain ⟨hr1256, hW1⟩ := hz1256
  refine lv_pop hx hb dL_law_1259 rfl ?_
  refine lv_aload_n hx hb dL_law_1260 rfl (lv_at hl 2 rfl) ?_
  refine lv_aload_n hx hb dL_law_1261 rfl (lv_at hl 0 rfl) ?_
  refine lv_iload_n hx hb dL_law_1262 rfl (lv_at hl 3 rfl) ?_
  refine lv_iconst (v := 1) hx hb dL_law_1263 (by decide) ?_
  refine lv_iadd hx hb dL_law_1264 ?_
  refine va_sld hx hb hX hbl hbA hS (lw_ix 1 h6 hL (by decide)) dL_law_1265 ?_
  refine lv_topi (nm_r (e' := xs (nI ii + 1).toNatClampNeg) rfl ?_)
  have hP := pm_Pp List.perm_append_comm hP
  have hD := pm_Dp List.perm_append_comm hD
  refine lc_i (X := M) (Rr := W1) (va_runV (As := [.int (xs (nI ii + 1).toNatClampNeg)]) (rest := []) ⟨hx, hb, hml, hown, hts⟩ (cm_X12_strike l g cI cJ cB cZ cL kA vA y M H.size hM (xs (nI ii + 1).toNatClampNeg)) (cwV 1 hts (goodIn_app (g_4 (List.mem_cons_of_mem _ (List.mem_append_left _ (List.mem_of_getElem? (i := 185) rfl))) (List.mem_cons_of_mem _ (List.mem_append_left _ (List.mem_of_getElem? (i := 186) rfl))) (List.mem_cons_of_mem _ (List.mem_append_left _ (List.mem_of_getElem? (i := 187) rfl))) (List.mem_cons_of_mem _ (List.mem_append_left _ (List.mem_of_getElem? (i := 7) rfl))) (by decide +kernel)) (goodIn_sub ml_v_X12_strike good_v_X12_strike)) rfl rfl rfl (by decide +kernel) ⟨Nat.le_of_ble_eq_true rfl, Nat.le_of_ble_eq_true rfl⟩) (lc_pre (ci := 11) (q := (RX12, TX12, 56)) hK hE hS hA hP hD rfl (mt_mem hM)) rfl rfl hl.1 rfl (lv_room (Nat.le_of_ble_eq_true rfl)) dL_law_1266 ⟨(by show (1000 + 2 * ii) + 0 + 0 ≤ 600000; omega), (by show (100000 + 25 * ii) + 0 + 0 ≤ 7302250; omega)⟩) hS hA hP hD (fun r1266 W2 H locs hz1266 hP hD hS => ?_)
  obtain ⟨hr1266, hW2⟩ := hz1266
  have hP := pm_Pp List.perm_append_comm hP
  have hD := pm_Dp List.perm_append_comm hD
  refine lv_pop hx hb dL_law_1269 rfl ?_
  refine lv_goto (tgt := 2459) hx hb dL_law_1270 (by decide) ?_
  refine W.widen (k := 1009 + 2 * ii) (n := 100145 + 25 * ii) (by omega) (by omega) ?_
  exact hend _ _ _ W1 W2 _ _ _ _ _ _ hW1 hW2 hJ hP hD hS hl
set_option maxHeartbeats 4000000 in
set_option maxRecDepth 100000 in
theorem lw_c31 {p : Program} {e : Env} {s : State} {m : MethodId} {below : List Frame} {meth : Method} {c : Code} (l : Launch) {sb L : Nat} {xs : Nat → Int32} (hL : L ≤ 3072) (C0 : lw_At p s m meth c sb L xs) {g : va_G} {cI cJ cB cZ cL : ClassId} (hK : va_K g vwCl (tyT cI cJ cB cZ cL) s) {kA vA : Nat → Nat} (hE : ENV kA vA (fun q : Nat => s.heap.size ≤ q) s) {x y : Nat} {ii : Nat} (h6 : ii + 6 ≤ L) (hend : ∀ (H : Heap) (locs : List Loc) (ls : Array Slot) (XT M : va_W) (sw sn ki mw mn kp : Nat → Int32) (hXT : XTSt cI cJ cB cZ cL x sw sn ki XT) (hM : MSt cI cJ cB cZ cL y mw mn kp M) (hJ : JJ sw sn ki mw mn kp) (hP : va_P g vwCl (XT ++ M) H) (hD : va_D (fun q : Nat => s.heap.size ≤ q) (XT ++ M)) (hS : va_S (fun q : Nat => s.heap.size ≤ q) s.heap H locs) (hl : lv_has ls 4 [(0, .ref sb), (1, .ref x), (2, .ref y), (3, .int (nI ii))]), W p l e room_1 s m #[Value.ref sb] below meth c H locs (1009 + 2 * ii) (100145 + 25 * ii) (lw_Z below #[Value.ref sb] s) (F0 m 2459 ls [])) (H : Heap) (locs : List Loc) (ls : Array Slot) (XT M : va_W) (sw sn ki mw mn kp : Nat → Int32) (hXT : XTSt cI cJ cB cZ cL x sw sn ki XT) (hM : MSt cI cJ cB cZ cL y mw mn kp M) (hJ : JJ sw sn ki mw mn kp) (hP : va_P g vwCl (XT ++ M) H) (hD : va_D (fun q : Nat => s.heap.size ≤ q) (XT ++ M)) (hS : va_S (fun q : Nat => s.heap.size ≤ q) s.heap H locs) (hl : lv_has ls 4 [(0, .ref sb), (1, .ref x), (2, .ref y), (3, .int (nI ii))]) : W p l e room_1 s m #[Value.ref sb] below meth c H locs (1000 + 2 * ii) (100000 + 25 * ii) (lw_Z below #[Value.ref sb] s) (F0 m 1273 ls []) := by
  obtain ⟨hx, hb, hr, hml, hown, hts0, hX, hbl, hlocks, hgv⟩ := id C0
  have hts : ∀ w ∈ v_L_law, w.before #[Value.ref sb] s = true := fun w h => hts0 w (in_v_L_law w h)
  have hown : s.vm.findClass RL = some m.cls := hown
  have hA : ∀ q : Nat, s.heap.size ≤ q → (fun q : Nat => s.heap.size ≤ q) q := fun _ h => h
  have hbA : ¬ (fun q : Nat => s.heap.size ≤ q) sb := Nat.not_le.mpr hbl
  refine lv_aload_n hx hb dL_law_1273 rfl (lv_at hl 1 rfl) ?_
  refine lv_aload_n hx hb dL_law_1274 rfl (lv_at hl 0 rfl) ?_
  refine lv_iload_n hx hb dL_law_1275 rfl (lv_at hl 3 rfl) ?_
  refine lv_iconst (v := 1) hx hb dL_law_1276 (by decide) ?_
  refine lv_iadd hx hb dL_law_1277 ?_
  refine va_sld hx hb hX hbl hbA hS (lw_ix 1 h6 hL (by decide)) dL_law_1278 ?_
  refine lv_topi (nm_r (e' := xs (nI ii + 1).toNatClampNeg) rfl ?_)
  refine lc_i (X := XT) (Rr := M) (va_runV (As := [.int (xs (nI ii + 1).toNatClampNeg)]) (rest := []) ⟨hx, hb, hml, hown, hts⟩ (lift_i (fun im X hX => cx_X11_saves l g cI cJ cB cZ cL kA vA x im X H.size hX (xs (nI ii + 1).toNatClampNeg)) hXT) (cwV 1 hts (goodIn_app (g_4 (List.mem_cons_of_mem _ (List.mem_append_left _ (List.mem_of_getElem? (i := 188) rfl))) (List.mem_cons_of_mem _ (List.mem_append_left _ (List.mem_of_getElem? (i := 189) rfl))) (List.mem_cons_of_mem _ (List.mem_append_left _ (List.mem_of_getElem? (i := 190) rfl))) (List.mem_cons_of_mem _ (List.mem_append_left _ (List.mem_of_getElem? (i := 3) rfl))) (by decide +kernel)) (goodIn_sub ml_v_X11_saves good_v_X11_saves)) rfl rfl rfl (by decide +kernel) ⟨Nat.le_of_ble_eq_true rfl, Nat.le_of_ble_eq_true rfl⟩) (lc_pre (ci := 10) (q := (RX11, TX11, 11)) hK hE hS hA hP hD rfl (xt_mem hXT)) rfl rfl hl.1 rfl (lv_room (Nat.le_of_ble_eq_true rfl)) dL_law_1279 ⟨(by show (1000 + 2 * ii) + 0 ≤ 600000; omega), (by show (100000 + 25 * ii) + 0 ≤ 7302250; omega)⟩) hS hA hP hD (fun r1279 W1 H locs hz1279 hP hD hS => ?_)
  obtain ⟨hr1279, hW1⟩ := hz1279
  refine lv_pop hx hb dL_law_1282 rfl ?_
  refine lv_aload_n hx hb dL_law_1283 rfl (lv_at hl 2 rfl) ?_
  refine lv_aload_n hx hb dL_law_1284 rfl (lv_at hl 0 rfl) ?_
  refine lv_iload_n hx hb dL_law_1285 rfl (lv_at hl 3 rfl) ?_
  refine lv_iconst (v := 1) hx hb dL_law_1286 (by decide) ?_
  refine lv_iadd hx hb dL_law_1287 ?_
  refine va_sld hx hb hX hbl hbA hS (lw_ix 1 h6 hL (by decide)) dL_law_1288 ?_
  refine lv_topi (nm_r (e' := xs (nI ii + 1).toNatClampNeg) rfl ?_)
  have hP := pm_Pp List.perm_append_comm hP
  have hD := pm_Dp List.perm_append_comm hD
  refine lc_i (X := M) (Rr := W1) (va_runV (As := [.int (xs (nI ii + 1).toNatClampNeg)]) (rest := []) ⟨hx, hb, hml, hown, hts⟩ (cm_X12_saves l g cI cJ cB cZ cL kA vA y M H.size hM (xs (nI ii + 1).toNatClampNeg)) (cwV 1 hts (goodIn_app (g_4 (List.mem_cons_of_mem _ (List.mem_append_left _ (List.mem_of_getElem? (i := 191) rfl))) (List.mem_cons_of_mem _ (List.mem_append_left _ (List.mem_of_getElem? (i := 192) rfl))) (List.mem_cons_of_mem _ (List.mem_append_left _ (List.mem_of_getElem? (i := 193) rfl))) (List.mem_cons_of_mem _ (List.mem_append_left _ (List.mem_of_getElem? (i := 7) rfl))) (by decide +kernel)) (goodIn_sub ml_v_X12_saves good_v_X12_saves)) rfl rfl rfl (by decide +kernel) ⟨Nat.le_of_ble_eq_true rfl, Nat.le_of_ble_eq_true rfl⟩) (lc_pre (ci := 11) (q := (RX12, TX12, 56)) hK hE hS hA hP hD rfl (mt_mem hM)) rfl rfl hl.1 rfl (lv_room (Nat.le_of_ble_eq_true rfl)) dL_law_1289 ⟨(by show (1000 + 2 * ii) + 0 + 0 ≤ 600000; omega), (by show (100000 + 25 * ii) + 0 + 0 ≤ 7302250; omega)⟩) hS hA hP hD (fun r1289 W2 H locs hz1289 hP hD hS => ?_)
  obtain ⟨hr1289, hW2⟩ := hz1289
  have hP := pm_Pp List.perm_append_comm hP
  have hD := pm_Dp List.perm_append_comm hD
  refine lv_pop hx hb dL_law_1292 rfl ?_
  refine lv_goto (tgt := 2459) hx hb dL_law_1293 (by decide) ?_
  refine W.widen (k := 1009 + 2 * ii) (n := 100145 + 25 * ii) (by omega) (by omega) ?_
  exact hend _ _ _ W1 W2 _ _ _ _ _ _ hW1 hW2 hJ hP hD hS hl
set_option maxHeartbeats 4000000 in
set_option maxRecDepth 100000 in
theorem lw_c32 {p : Program} {e : Env} {s : State} {m : MethodId} {below : List Frame} {meth : Method} {c : Code} (l : Launch) {sb L : Nat} {xs : Nat → Int32} (hL : L ≤ 3072) (C0 : lw_At p s m meth c sb L xs) {g : va_G} {cI cJ cB cZ cL : ClassId} (hK : va_K g vwCl (tyT cI cJ cB cZ cL) s) {kA vA : Nat → Nat} (hE : ENV kA vA (fun q : Nat => s.heap.size ≤ q) s) {x y : Nat} {ii : Nat} (h6 : ii + 6 ≤ L) (hend : ∀ (H : Heap) (locs : List Loc) (ls : Array Slot) (XT M : va_W) (sw sn ki mw mn kp : Nat → Int32) (hXT : XTSt cI cJ cB cZ cL x sw sn ki XT) (hM : MSt cI cJ cB cZ cL y mw mn kp M) (hJ : JJ sw sn ki mw mn kp) (hP : va_P g vwCl (XT ++ M) H) (hD : va_D (fun q : Nat => s.heap.size ≤ q) (XT ++ M)) (hS : va_S (fun q : Nat => s.heap.size ≤ q) s.heap H locs) (hl : lv_has ls 4 [(0, .ref sb), (1, .ref x), (2, .ref y), (3, .int (nI ii))]), W p l e room_1 s m #[Value.ref sb] below meth c H locs (1009 + 2 * ii) (100145 + 25 * ii) (lw_Z below #[Value.ref sb] s) (F0 m 2459 ls [])) (H : Heap) (locs : List Loc) (ls : Array Slot) (XT M : va_W) (sw sn ki mw mn kp : Nat → Int32) (hXT : XTSt cI cJ cB cZ cL x sw sn ki XT) (hM : MSt cI cJ cB cZ cL y mw mn kp M) (hJ : JJ sw sn ki mw mn kp) (hP : va_P g vwCl (XT ++ M) H) (hD : va_D (fun q : Nat => s.heap.size ≤ q) (XT ++ M)) (hS : va_S (fun q : Nat => s.heap.size ≤ q) s.heap H locs) (hl : lv_has ls 4 [(0, .ref sb), (1, .ref x), (2, .ref y), (3, .int (nI ii))]) : W p l e room_1 s m #[Value.ref sb] below meth c H locs (1000 + 2 * ii) (100000 + 25 * ii) (lw_Z below #[Value.ref sb] s) (F0 m 1296 ls []) := by
  obtain ⟨hx, hb, hr, hml, hown, hts0, hX, hbl, hlocks, hgv⟩ := id C0
  have hts : ∀ w ∈ v_L_law, w.before #[Value.ref sb] s = true := fun w h => hts0 w (in_v_L_law w h)
  have hown : s.vm.findClass RL = some m.cls := hown
  have hA : ∀ q : Nat, s.heap.size ≤ q → (fun q : Nat => s.heap.size ≤ q) q := fun _ h => h
  have hbA : ¬ (fun q : Nat => s.heap.size ≤ q) sb := Nat.not_le.mpr hbl
  refine lv_aload_n hx hb dL_law_1296 rfl (lv_at hl 1 rfl) ?_
  refine lc_i (X := XT) (Rr := M) (va_runV (As := []) (rest := []) ⟨hx, hb, hml, hown, hts⟩ (lift_i (fun im X hX => cx_X11_mildest l g cI cJ cB cZ cL kA vA x im X H.size hX ) hXT) (cwV 0 hts (goodIn_app (g_4 (List.mem_cons_of_mem _ (List.mem_append_left _ (List.mem_of_getElem? (i := 194) rfl))) (List.mem_cons_of_mem _ (List.mem_append_left _ (List.mem_of_getElem? (i := 195) rfl))) (List.mem_cons_of_mem _ (List.mem_append_left _ (List.mem_of_getElem? (i := 196) rfl))) (List.mem_cons_of_mem _ (List.mem_append_left _ (List.mem_of_getElem? (i := 3) rfl))) (by decide +kernel)) (goodIn_sub ml_v_X11_mildest good_v_X11_mildest)) rfl rfl rfl (by decide +kernel) ⟨Nat.le_of_ble_eq_true rfl, Nat.le_of_ble_eq_true rfl⟩) (lc_pre (ci := 10) (q := (RX11, TX11, 11)) hK hE hS hA hP hD rfl (xt_mem hXT)) rfl rfl hl.1 rfl (lv_room (Nat.le_of_ble_eq_true rfl)) dL_law_1297 ⟨(by show (1000 + 2 * ii) + 0 ≤ 600000; omega), (by show (100000 + 25 * ii) + 0 ≤ 7302250; omega)⟩) hS hA hP hD (fun r1297 W1 H locs hz1297 hP hD hS => ?_)
  obtain ⟨hr1297, hW1⟩ := hz1297
  refine lv_pop hx hb dL_law_1300 rfl ?_
  refine lv_aload_n hx hb dL_law_1301 rfl (lv_at hl 2 rfl) ?_
  have hP := pm_Pp List.perm_append_comm hP
  have hD := pm_Dp List.perm_append_comm hD
  refine lc_i (X := M) (Rr := W1) (va_runV (As := []) (rest := []) ⟨hx, hb, hml, hown, hts⟩ (cm_X12_mildest l g cI cJ cB cZ cL kA vA y M H.size hM ) (cwV 0 hts (goodIn_app (g_4 (List.mem_cons_of_mem _ (List.mem_append_left _ (List.mem_of_getElem? (i := 197) rfl))) (List.mem_cons_of_mem _ (List.mem_append_left _ (List.mem_of_getElem? (i := 198) rfl))) (List.mem_cons_of_mem _ (List.mem_append_left _ (List.mem_of_getElem? (i := 199) rfl))) (List.mem_cons_of_mem _ (List.mem_append_left _ (List.mem_of_getElem? (i := 7) rfl))) (by decide +kernel)) (goodIn_sub ml_v_X12_mildest good_v_X12_mildest)) rfl rfl rfl (by decide +kernel) ⟨Nat.le_of_ble_eq_true rfl, Nat.le_of_ble_eq_true rfl⟩) (lc_pre (ci := 11) (q := (RX12, TX12, 56)) hK hE hS hA hP hD rfl (mt_mem hM)) rfl rfl hl.1 rfl (lv_room (Nat.le_of_ble_eq_true rfl)) dL_law_1302 ⟨(by show (1000 + 2 * ii) + 0 + 0 ≤ 600000; omega), (by show (100000 + 25 * ii) + 0 + 0 ≤ 7302250; omega)⟩) hS hA hP hD (fun r1302 W2 H locs hz1302 hP hD hS => ?_)
  obtain ⟨hr1302, hW2⟩ := hz1302
  have hP := pm_Pp List.perm_append_comm hP
  have hD := pm_Dp List.perm_append_comm hD
  refine lv_pop hx hb dL_law_1305 rfl ?_
  refine lv_goto (tgt := 2459) hx hb dL_law_1306 (by decide) ?_
  refine W.widen (k := 1009 + 2 * ii) (n := 100145 + 25 * ii) (by omega) (by omega) ?_
  exact hend _ _ _ W1 W2 _ _ _ _ _ _ hW1 hW2 hJ hP hD hS hl
set_option maxHeartbeats 4000000 in
set_option maxRecDepth 100000 in
theorem lw_c33 {p : Program} {e : Env} {s : State} {m : MethodId} {below : List Frame} {meth : Method} {c : Code} (l : Launch) {sb L : Nat} {xs : Nat → Int32} (hL : L ≤ 3072) (C0 : lw_At p s m meth c sb L xs) {g : va_G} {cI cJ cB cZ cL : ClassId} (hK : va_K g vwCl (tyT cI cJ cB cZ cL) s) {kA vA : Nat → Nat} (hE : ENV kA vA (fun q : Nat => s.heap.size ≤ q) s) {x y : Nat} {ii : Nat} (h6 : ii + 6 ≤ L) (hend : ∀ (H : Heap) (locs : List Loc) (ls : Array Slot) (XT M : va_W) (sw sn ki mw mn kp : Nat → Int32) (hXT : XTSt cI cJ cB cZ cL x sw sn ki XT) (hM : MSt cI cJ cB cZ cL y mw mn kp M) (hJ : JJ sw sn ki mw mn kp) (hP : va_P g vwCl (XT ++ M) H) (hD : va_D (fun q : Nat => s.heap.size ≤ q) (XT ++ M)) (hS : va_S (fun q : Nat => s.heap.size ≤ q) s.heap H locs) (hl : lv_has ls 4 [(0, .ref sb), (1, .ref x), (2, .ref y), (3, .int (nI ii))]), W p l e room_1 s m #[Value.ref sb] below meth c H locs (1009 + 2 * ii) (100145 + 25 * ii) (lw_Z below #[Value.ref sb] s) (F0 m 2459 ls [])) (H : Heap) (locs : List Loc) (ls : Array Slot) (XT M : va_W) (sw sn ki mw mn kp : Nat → Int32) (hXT : XTSt cI cJ cB cZ cL x sw sn ki XT) (hM : MSt cI cJ cB cZ cL y mw mn kp M) (hJ : JJ sw sn ki mw mn kp) (hP : va_P g vwCl (XT ++ M) H) (hD : va_D (fun q : Nat => s.heap.size ≤ q) (XT ++ M)) (hS : va_S (fun q : Nat => s.heap.size ≤ q) s.heap H locs) (hl : lv_has ls 4 [(0, .ref sb), (1, .ref x), (2, .ref y), (3, .int (nI ii))]) : W p l e room_1 s m #[Value.ref sb] below meth c H locs (1000 + 2 * ii) (100000 + 25 * ii) (lw_Z below #[Value.ref sb] s) (F0 m 1309 ls []) := by
  obtain ⟨hx, hb, hr, hml, hown, hts0, hX, hbl, hlocks, hgv⟩ := id C0
  have hts : ∀ w ∈ v_L_law, w.before #[Value.ref sb] s = true := fun w h => hts0 w (in_v_L_law w h)
  have hown : s.vm.findClass RL = some m.cls := hown
  have hA : ∀ q : Nat, s.heap.size ≤ q → (fun q : Nat => s.heap.size ≤ q) q := fun _ h => h
  have hbA : ¬ (fun q : Nat => s.heap.size ≤ q) sb := Nat.not_le.mpr hbl
  refine lv_aload_n hx hb dL_law_1309 rfl (lv_at hl 1 rfl) ?_
  refine lv_aload_n hx hb dL_law_1310 rfl (lv_at hl 0 rfl) ?_
  refine lv_iload_n hx hb dL_law_1311 rfl (lv_at hl 3 rfl) ?_
  refine lv_iconst (v := 1) hx hb dL_law_1312 (by decide) ?_
  refine lv_iadd hx hb dL_law_1313 ?_
  refine va_sld hx hb hX hbl hbA hS (lw_ix 1 h6 hL (by decide)) dL_law_1314 ?_
  refine lv_topi (nm_r (e' := xs (nI ii + 1).toNatClampNeg) rfl ?_)
  refine lv_aload_n hx hb dL_law_1315 rfl (lv_at hl 0 rfl) ?_
  refine lv_iload_n hx hb dL_law_1316 rfl (lv_at hl 3 rfl) ?_
  refine lv_iconst (v := 2) hx hb dL_law_1317 (by decide) ?_
  refine lv_iadd hx hb dL_law_1318 ?_
  refine va_sld hx hb hX hbl hbA hS (lw_ix 2 h6 hL (by decide)) dL_law_1319 ?_
  refine lv_topi (nm_r (e' := xs (nI ii + 2).toNatClampNeg) rfl ?_)
  refine lv_aload_n hx hb dL_law_1320 rfl (lv_at hl 0 rfl) ?_
  refine lv_iload_n hx hb dL_law_1321 rfl (lv_at hl 3 rfl) ?_
  refine lv_iconst (v := 3) hx hb dL_law_1322 (by decide) ?_
  refine lv_iadd hx hb dL_law_1323 ?_
  refine va_sld hx hb hX hbl hbA hS (lw_ix 3 h6 hL (by decide)) dL_law_1324 ?_
  refine lv_topi (nm_r (e' := xs (nI ii + 3).toNatClampNeg) rfl ?_)
  refine lc_l (X := XT) (Rr := M) (va_runV (As := [.int (xs (nI ii + 1).toNatClampNeg), .int (xs (nI ii + 2).toNatClampNeg), .int (xs (nI ii + 3).toNatClampNeg)]) (rest := []) ⟨hx, hb, hml, hown, hts⟩ (lift_l (fun im X hX => cx_X11_alive l g cI cJ cB cZ cL kA vA x im X H.size hX (xs (nI ii + 1).toNatClampNeg) (xs (nI ii + 2).toNatClampNeg) (xs (nI ii + 3).toNatClampNeg)) hXT) (cwV 3 hts (goodIn_app (g_4 (List.mem_cons_of_mem _ (List.mem_append_left _ (List.mem_of_getElem? (i := 200) rfl))) (List.mem_cons_of_mem _ (List.mem_append_left _ (List.mem_of_getElem? (i := 201) rfl))) (List.mem_cons_of_mem _ (List.mem_append_left _ (List.mem_of_getElem? (i := 202) rfl))) (List.mem_cons_of_mem _ (List.mem_append_left _ (List.mem_of_getElem? (i := 3) rfl))) (by decide +kernel)) (goodIn_sub ml_v_X11_alive good_v_X11_alive)) rfl rfl rfl (by decide +kernel) ⟨Nat.le_of_ble_eq_true rfl, Nat.le_of_ble_eq_true rfl⟩) (lc_pre (ci := 10) (q := (RX11, TX11, 11)) hK hE hS hA hP hD rfl (xt_mem hXT)) rfl rfl hl.1 rfl (lv_room (Nat.le_of_ble_eq_true rfl)) dL_law_1325 ⟨(by show (1000 + 2 * ii) + 0 ≤ 600000; omega), (by show (100000 + 25 * ii) + 0 ≤ 7302250; omega)⟩) hS hA hP hD (fun r1325 W1 H locs hz1325 hP hD hS => ?_)
  obtain ⟨hr1325, hW1⟩ := hz1325
  refine lv_pop2_2 hx hb dL_law_1328 rfl ?_
  refine lv_aload_n hx hb dL_law_1329 rfl (lv_at hl 2 rfl) ?_
  refine lv_aload_n hx hb dL_law_1330 rfl (lv_at hl 0 rfl) ?_
  refine lv_iload_n hx hb dL_law_1331 rfl (lv_at hl 3 rfl) ?_
  refine lv_iconst (v := 1) hx hb dL_law_1332 (by decide) ?_
  refine lv_iadd hx hb dL_law_1333 ?_
  refine va_sld hx hb hX hbl hbA hS (lw_ix 1 h6 hL (by decide)) dL_law_1334 ?_
  refine lv_topi (nm_r (e' := xs (nI ii + 1).toNatClampNeg) rfl ?_)
  refine lv_aload_n hx hb dL_law_1335 rfl (lv_at hl 0 rfl) ?_
  refine lv_iload_n hx hb dL_law_1336 rfl (lv_at hl 3 rfl) ?_
  refine lv_iconst (v := 2) hx hb dL_law_1337 (by decide) ?_
  refine lv_iadd hx hb dL_law_1338 ?_
  refine va_sld hx hb hX hbl hbA hS (lw_ix 2 h6 hL (by decide)) dL_law_1339 ?_
  refine lv_topi (nm_r (e' := xs (nI ii + 2).toNatClampNeg) rfl ?_)
  refine lv_aload_n hx hb dL_law_1340 rfl (lv_at hl 0 rfl) ?_
  refine lv_iload_n hx hb dL_law_1341 rfl (lv_at hl 3 rfl) ?_
  refine lv_iconst (v := 3) hx hb dL_law_1342 (by decide) ?_
  refine lv_iadd hx hb dL_law_1343 ?_
  refine va_sld hx hb hX hbl hbA hS (lw_ix 3 h6 hL (by decide)) dL_law_1344 ?_
  refine lv_topi (nm_r (e' := xs (nI ii + 3).toNatClampNeg) rfl ?_)
  have hP := pm_Pp List.perm_append_comm hP
  have hD := pm_Dp List.perm_append_comm hD
  refine lc_l (X := M) (Rr := W1) (va_runV (As := [.int (xs (nI ii + 1).toNatClampNeg), .int (xs (nI ii + 2).toNatClampNeg), .int (xs (nI ii + 3).toNatClampNeg)]) (rest := []) ⟨hx, hb, hml, hown, hts⟩ (cm_X12_alive l g cI cJ cB cZ cL kA vA y M H.size hM (xs (nI ii + 1).toNatClampNeg) (xs (nI ii + 2).toNatClampNeg) (xs (nI ii + 3).toNatClampNeg)) (cwV 3 hts (goodIn_app (g_4 (List.mem_cons_of_mem _ (List.mem_append_left _ (List.mem_of_getElem? (i := 203) rfl))) (List.mem_cons_of_mem _ (List.mem_append_left _ (List.mem_of_getElem? (i := 204) rfl))) (List.mem_cons_of_mem _ (List.mem_append_left _ (List.mem_of_getElem? (i := 205) rfl))) (List.mem_cons_of_mem _ (List.mem_append_left _ (List.mem_of_getElem? (i := 7) rfl))) (by decide +kernel)) (goodIn_sub ml_v_X12_alive good_v_X12_alive)) rfl rfl rfl (by decide +kernel) ⟨Nat.le_of_ble_eq_true rfl, Nat.le_of_ble_eq_true rfl⟩) (lc_pre (ci := 11) (q := (RX12, TX12, 56)) hK hE hS hA hP hD rfl (mt_mem hM)) rfl rfl hl.1 rfl (lv_room (Nat.le_of_ble_eq_true rfl)) dL_law_1345 ⟨(by show (1000 + 2 * ii) + 0 + 0 ≤ 600000; omega), (by show (100000 + 25 * ii) + 0 + 0 ≤ 7302250; omega)⟩) hS hA hP hD (fun r1345 W2 H locs hz1345 hP hD hS => ?_)
  obtain ⟨hr1345, hW2⟩ := hz1345
  have hP := pm_Pp List.perm_append_comm hP
  have hD := pm_Dp List.perm_append_comm hD
  refine lv_pop2_2 hx hb dL_law_1348 rfl ?_
  refine lv_goto (tgt := 2459) hx hb dL_law_1349 (by decide) ?_
  refine W.widen (k := 1009 + 2 * ii) (n := 100145 + 25 * ii) (by omega) (by omega) ?_
  exact hend _ _ _ W1 W2 _ _ _ _ _ _ hW1 hW2 hJ hP hD hS hl
set_option maxHeartbeats 4000000 in
set_option maxRecDepth 100000 in
theorem lw_c34 {p : Program} {e : Env} {s : State} {m : MethodId} {below : List Frame} {meth : Method} {c : Code} (l : Launch) {sb L : Nat} {xs : Nat → Int32} (hL : L ≤ 3072) (C0 : lw_At p s m meth c sb L xs) {g : va_G} {cI cJ cB cZ cL : ClassId} (hK : va_K g vwCl (tyT cI cJ cB cZ cL) s) {kA vA : Nat → Nat} (hE : ENV kA vA (fun q : Nat => s.heap.size ≤ q) s) {x y : Nat} {ii : Nat} (h6 : ii + 6 ≤ L) (hend : ∀ (H : Heap) (locs : List Loc) (ls : Array Slot) (XT M : va_W) (sw sn ki mw mn kp : Nat → Int32) (hXT : XTSt cI cJ cB cZ cL x sw sn ki XT) (hM : MSt cI cJ cB cZ cL y mw mn kp M) (hJ : JJ sw sn ki mw mn kp) (hP : va_P g vwCl (XT ++ M) H) (hD : va_D (fun q : Nat => s.heap.size ≤ q) (XT ++ M)) (hS : va_S (fun q : Nat => s.heap.size ≤ q) s.heap H locs) (hl : lv_has ls 4 [(0, .ref sb), (1, .ref x), (2, .ref y), (3, .int (nI ii))]), W p l e room_1 s m #[Value.ref sb] below meth c H locs (1009 + 2 * ii) (100145 + 25 * ii) (lw_Z below #[Value.ref sb] s) (F0 m 2459 ls [])) (H : Heap) (locs : List Loc) (ls : Array Slot) (XT M : va_W) (sw sn ki mw mn kp : Nat → Int32) (hXT : XTSt cI cJ cB cZ cL x sw sn ki XT) (hM : MSt cI cJ cB cZ cL y mw mn kp M) (hJ : JJ sw sn ki mw mn kp) (hP : va_P g vwCl (XT ++ M) H) (hD : va_D (fun q : Nat => s.heap.size ≤ q) (XT ++ M)) (hS : va_S (fun q : Nat => s.heap.size ≤ q) s.heap H locs) (hl : lv_has ls 4 [(0, .ref sb), (1, .ref x), (2, .ref y), (3, .int (nI ii))]) : W p l e room_1 s m #[Value.ref sb] below meth c H locs (1000 + 2 * ii) (100000 + 25 * ii) (lw_Z below #[Value.ref sb] s) (F0 m 1352 ls []) := by
  obtain ⟨hx, hb, hr, hml, hown, hts0, hX, hbl, hlocks, hgv⟩ := id C0
  have hts : ∀ w ∈ v_L_law, w.before #[Value.ref sb] s = true := fun w h => hts0 w (in_v_L_law w h)
  have hown : s.vm.findClass RL = some m.cls := hown
  have hA : ∀ q : Nat, s.heap.size ≤ q → (fun q : Nat => s.heap.size ≤ q) q := fun _ h => h
  have hbA : ¬ (fun q : Nat => s.heap.size ≤ q) sb := Nat.not_le.mpr hbl
  refine lv_aload_n hx hb dL_law_1352 rfl (lv_at hl 1 rfl) ?_
  refine lv_aload_n hx hb dL_law_1353 rfl (lv_at hl 0 rfl) ?_
  refine lv_iload_n hx hb dL_law_1354 rfl (lv_at hl 3 rfl) ?_
  refine lv_iconst (v := 1) hx hb dL_law_1355 (by decide) ?_
  refine lv_iadd hx hb dL_law_1356 ?_
  refine va_sld hx hb hX hbl hbA hS (lw_ix 1 h6 hL (by decide)) dL_law_1357 ?_
  refine lv_topi (nm_r (e' := xs (nI ii + 1).toNatClampNeg) rfl ?_)
  refine lv_aload_n hx hb dL_law_1358 rfl (lv_at hl 0 rfl) ?_
  refine lv_iload_n hx hb dL_law_1359 rfl (lv_at hl 3 rfl) ?_
  refine lv_iconst (v := 2) hx hb dL_law_1360 (by decide) ?_
  refine lv_iadd hx hb dL_law_1361 ?_
  refine va_sld hx hb hX hbl hbA hS (lw_ix 2 h6 hL (by decide)) dL_law_1362 ?_
  refine lv_topi (nm_r (e' := xs (nI ii + 2).toNatClampNeg) rfl ?_)
  refine lv_aload_n hx hb dL_law_1363 rfl (lv_at hl 0 rfl) ?_
  refine lv_iload_n hx hb dL_law_1364 rfl (lv_at hl 3 rfl) ?_
  refine lv_iconst (v := 3) hx hb dL_law_1365 (by decide) ?_
  refine lv_iadd hx hb dL_law_1366 ?_
  refine va_sld hx hb hX hbl hbA hS (lw_ix 3 h6 hL (by decide)) dL_law_1367 ?_
  refine lv_topi (nm_r (e' := xs (nI ii + 3).toNatClampNeg) rfl ?_)
  refine lc_l (X := XT) (Rr := M) (va_runV (As := [.int (xs (nI ii + 1).toNatClampNeg), .int (xs (nI ii + 2).toNatClampNeg), .int (xs (nI ii + 3).toNatClampNeg)]) (rest := []) ⟨hx, hb, hml, hown, hts⟩ (lift_l (fun im X hX => cx_X11_both l g cI cJ cB cZ cL kA vA x im X H.size hX (xs (nI ii + 1).toNatClampNeg) (xs (nI ii + 2).toNatClampNeg) (xs (nI ii + 3).toNatClampNeg)) hXT) (cwV 3 hts (goodIn_app (g_4 (List.mem_cons_of_mem _ (List.mem_append_left _ (List.mem_of_getElem? (i := 206) rfl))) (List.mem_cons_of_mem _ (List.mem_append_left _ (List.mem_of_getElem? (i := 207) rfl))) (List.mem_cons_of_mem _ (List.mem_append_left _ (List.mem_of_getElem? (i := 208) rfl))) (List.mem_cons_of_mem _ (List.mem_append_left _ (List.mem_of_getElem? (i := 3) rfl))) (by decide +kernel)) (goodIn_sub ml_v_X11_both good_v_X11_both)) rfl rfl rfl (by decide +kernel) ⟨Nat.le_of_ble_eq_true rfl, Nat.le_of_ble_eq_true rfl⟩) (lc_pre (ci := 10) (q := (RX11, TX11, 11)) hK hE hS hA hP hD rfl (xt_mem hXT)) rfl rfl hl.1 rfl (lv_room (Nat.le_of_ble_eq_true rfl)) dL_law_1368 ⟨(by show (1000 + 2 * ii) + 0 ≤ 600000; omega), (by show (100000 + 25 * ii) + 0 ≤ 7302250; omega)⟩) hS hA hP hD (fun r1368 W1 H locs hz1368 hP hD hS => ?_)
  obtain ⟨hr1368, hW1⟩ := hz1368
  refine lv_pop2_2 hx hb dL_law_1371 rfl ?_
  refine lv_aload_n hx hb dL_law_1372 rfl (lv_at hl 2 rfl) ?_
  refine lv_aload_n hx hb dL_law_1373 rfl (lv_at hl 0 rfl) ?_
  refine lv_iload_n hx hb dL_law_1374 rfl (lv_at hl 3 rfl) ?_
  refine lv_iconst (v := 1) hx hb dL_law_1375 (by decide) ?_
  refine lv_iadd hx hb dL_law_1376 ?_
  refine va_sld hx hb hX hbl hbA hS (lw_ix 1 h6 hL (by decide)) dL_law_1377 ?_
  refine lv_topi (nm_r (e' := xs (nI ii + 1).toNatClampNeg) rfl ?_)
  refine lv_aload_n hx hb dL_law_1378 rfl (lv_at hl 0 rfl) ?_
  refine lv_iload_n hx hb dL_law_1379 rfl (lv_at hl 3 rfl) ?_
  refine lv_iconst (v := 2) hx hb dL_law_1380 (by decide) ?_
  refine lv_iadd hx hb dL_law_1381 ?_
  refine va_sld hx hb hX hbl hbA hS (lw_ix 2 h6 hL (by decide)) dL_law_1382 ?_
  refine lv_topi (nm_r (e' := xs (nI ii + 2).toNatClampNeg) rfl ?_)
  refine lv_aload_n hx hb dL_law_1383 rfl (lv_at hl 0 rfl) ?_
  refine lv_iload_n hx hb dL_law_1384 rfl (lv_at hl 3 rfl) ?_
  refine lv_iconst (v := 3) hx hb dL_law_1385 (by decide) ?_
  refine lv_iadd hx hb dL_law_1386 ?_
  refine va_sld hx hb hX hbl hbA hS (lw_ix 3 h6 hL (by decide)) dL_law_1387 ?_
  refine lv_topi (nm_r (e' := xs (nI ii + 3).toNatClampNeg) rfl ?_)
  have hP := pm_Pp List.perm_append_comm hP
  have hD := pm_Dp List.perm_append_comm hD
  refine lc_l (X := M) (Rr := W1) (va_runV (As := [.int (xs (nI ii + 1).toNatClampNeg), .int (xs (nI ii + 2).toNatClampNeg), .int (xs (nI ii + 3).toNatClampNeg)]) (rest := []) ⟨hx, hb, hml, hown, hts⟩ (cm_X12_both l g cI cJ cB cZ cL kA vA y M H.size hM (xs (nI ii + 1).toNatClampNeg) (xs (nI ii + 2).toNatClampNeg) (xs (nI ii + 3).toNatClampNeg)) (cwV 3 hts (goodIn_app (g_4 (List.mem_cons_of_mem _ (List.mem_append_left _ (List.mem_of_getElem? (i := 209) rfl))) (List.mem_cons_of_mem _ (List.mem_append_left _ (List.mem_of_getElem? (i := 210) rfl))) (List.mem_cons_of_mem _ (List.mem_append_left _ (List.mem_of_getElem? (i := 211) rfl))) (List.mem_cons_of_mem _ (List.mem_append_left _ (List.mem_of_getElem? (i := 7) rfl))) (by decide +kernel)) (goodIn_sub ml_v_X12_both good_v_X12_both)) rfl rfl rfl (by decide +kernel) ⟨Nat.le_of_ble_eq_true rfl, Nat.le_of_ble_eq_true rfl⟩) (lc_pre (ci := 11) (q := (RX12, TX12, 56)) hK hE hS hA hP hD rfl (mt_mem hM)) rfl rfl hl.1 rfl (lv_room (Nat.le_of_ble_eq_true rfl)) dL_law_1388 ⟨(by show (1000 + 2 * ii) + 0 + 0 ≤ 600000; omega), (by show (100000 + 25 * ii) + 0 + 0 ≤ 7302250; omega)⟩) hS hA hP hD (fun r1388 W2 H locs hz1388 hP hD hS => ?_)
  obtain ⟨hr1388, hW2⟩ := hz1388
  have hP := pm_Pp List.perm_append_comm hP
  have hD := pm_Dp List.perm_append_comm hD
  refine lv_pop2_2 hx hb dL_law_1391 rfl ?_
  refine lv_goto (tgt := 2459) hx hb dL_law_1392 (by decide) ?_
  refine W.widen (k := 1009 + 2 * ii) (n := 100145 + 25 * ii) (by omega) (by omega) ?_
  exact hend _ _ _ W1 W2 _ _ _ _ _ _ hW1 hW2 hJ hP hD hS hl
set_option maxHeartbeats 4000000 in
set_option maxRecDepth 100000 in
theorem lw_c35 {p : Program} {e : Env} {s : State} {m : MethodId} {below : List Frame} {meth : Method} {c : Code} (l : Launch) {sb L : Nat} {xs : Nat → Int32} (hL : L ≤ 3072) (C0 : lw_At p s m meth c sb L xs) {g : va_G} {cI cJ cB cZ cL : ClassId} (hK : va_K g vwCl (tyT cI cJ cB cZ cL) s) {kA vA : Nat → Nat} (hE : ENV kA vA (fun q : Nat => s.heap.size ≤ q) s) {x y : Nat} {ii : Nat} (h6 : ii + 6 ≤ L) (hend : ∀ (H : Heap) (locs : List Loc) (ls : Array Slot) (XT M : va_W) (sw sn ki mw mn kp : Nat → Int32) (hXT : XTSt cI cJ cB cZ cL x sw sn ki XT) (hM : MSt cI cJ cB cZ cL y mw mn kp M) (hJ : JJ sw sn ki mw mn kp) (hP : va_P g vwCl (XT ++ M) H) (hD : va_D (fun q : Nat => s.heap.size ≤ q) (XT ++ M)) (hS : va_S (fun q : Nat => s.heap.size ≤ q) s.heap H locs) (hl : lv_has ls 4 [(0, .ref sb), (1, .ref x), (2, .ref y), (3, .int (nI ii))]), W p l e room_1 s m #[Value.ref sb] below meth c H locs (1009 + 2 * ii) (100145 + 25 * ii) (lw_Z below #[Value.ref sb] s) (F0 m 2459 ls [])) (H : Heap) (locs : List Loc) (ls : Array Slot) (XT M : va_W) (sw sn ki mw mn kp : Nat → Int32) (hXT : XTSt cI cJ cB cZ cL x sw sn ki XT) (hM : MSt cI cJ cB cZ cL y mw mn kp M) (hJ : JJ sw sn ki mw mn kp) (hP : va_P g vwCl (XT ++ M) H) (hD : va_D (fun q : Nat => s.heap.size ≤ q) (XT ++ M)) (hS : va_S (fun q : Nat => s.heap.size ≤ q) s.heap H locs) (hl : lv_has ls 4 [(0, .ref sb), (1, .ref x), (2, .ref y), (3, .int (nI ii))]) : W p l e room_1 s m #[Value.ref sb] below meth c H locs (1000 + 2 * ii) (100000 + 25 * ii) (lw_Z below #[Value.ref sb] s) (F0 m 1395 ls []) := by
  obtain ⟨hx, hb, hr, hml, hown, hts0, hX, hbl, hlocks, hgv⟩ := id C0
  have hts : ∀ w ∈ v_L_law, w.before #[Value.ref sb] s = true := fun w h => hts0 w (in_v_L_law w h)
  have hown : s.vm.findClass RL = some m.cls := hown
  have hA : ∀ q : Nat, s.heap.size ≤ q → (fun q : Nat => s.heap.size ≤ q) q := fun _ h => h
  have hbA : ¬ (fun q : Nat => s.heap.size ≤ q) sb := Nat.not_le.mpr hbl
  refine lv_aload_n hx hb dL_law_1395 rfl (lv_at hl 1 rfl) ?_
  refine lv_aload_n hx hb dL_law_1396 rfl (lv_at hl 0 rfl) ?_
  refine lv_iload_n hx hb dL_law_1397 rfl (lv_at hl 3 rfl) ?_
  refine lv_iconst (v := 1) hx hb dL_law_1398 (by decide) ?_
  refine lv_iadd hx hb dL_law_1399 ?_
  refine va_sld hx hb hX hbl hbA hS (lw_ix 1 h6 hL (by decide)) dL_law_1400 ?_
  refine lv_topi (nm_r (e' := xs (nI ii + 1).toNatClampNeg) rfl ?_)
  refine lv_aload_n hx hb dL_law_1401 rfl (lv_at hl 0 rfl) ?_
  refine lv_iload_n hx hb dL_law_1402 rfl (lv_at hl 3 rfl) ?_
  refine lv_iconst (v := 2) hx hb dL_law_1403 (by decide) ?_
  refine lv_iadd hx hb dL_law_1404 ?_
  refine va_sld hx hb hX hbl hbA hS (lw_ix 2 h6 hL (by decide)) dL_law_1405 ?_
  refine lv_topi (nm_r (e' := xs (nI ii + 2).toNatClampNeg) rfl ?_)
  refine lv_aload_n hx hb dL_law_1406 rfl (lv_at hl 0 rfl) ?_
  refine lv_iload_n hx hb dL_law_1407 rfl (lv_at hl 3 rfl) ?_
  refine lv_iconst (v := 3) hx hb dL_law_1408 (by decide) ?_
  refine lv_iadd hx hb dL_law_1409 ?_
  refine va_sld hx hb hX hbl hbA hS (lw_ix 3 h6 hL (by decide)) dL_law_1410 ?_
  refine lv_topi (nm_r (e' := xs (nI ii + 3).toNatClampNeg) rfl ?_)
  refine lc_l (X := XT) (Rr := M) (va_runV (As := [.int (xs (nI ii + 1).toNatClampNeg), .int (xs (nI ii + 2).toNatClampNeg), .int (xs (nI ii + 3).toNatClampNeg)]) (rest := []) ⟨hx, hb, hml, hown, hts⟩ (lift_l (fun im X hX => cx_X11_mean l g cI cJ cB cZ cL kA vA x im X H.size hX (xs (nI ii + 1).toNatClampNeg) (xs (nI ii + 2).toNatClampNeg) (xs (nI ii + 3).toNatClampNeg)) hXT) (cwV 3 hts (goodIn_app (g_4 (List.mem_cons_of_mem _ (List.mem_append_left _ (List.mem_of_getElem? (i := 212) rfl))) (List.mem_cons_of_mem _ (List.mem_append_left _ (List.mem_of_getElem? (i := 213) rfl))) (List.mem_cons_of_mem _ (List.mem_append_left _ (List.mem_of_getElem? (i := 214) rfl))) (List.mem_cons_of_mem _ (List.mem_append_left _ (List.mem_of_getElem? (i := 3) rfl))) (by decide +kernel)) (goodIn_sub ml_v_X11_mean good_v_X11_mean)) rfl rfl rfl (by decide +kernel) ⟨Nat.le_of_ble_eq_true rfl, Nat.le_of_ble_eq_true rfl⟩) (lc_pre (ci := 10) (q := (RX11, TX11, 11)) hK hE hS hA hP hD rfl (xt_mem hXT)) rfl rfl hl.1 rfl (lv_room (Nat.le_of_ble_eq_true rfl)) dL_law_1411 ⟨(by show (1000 + 2 * ii) + 0 ≤ 600000; omega), (by show (100000 + 25 * ii) + 0 ≤ 7302250; omega)⟩) hS hA hP hD (fun r1411 W1 H locs hz1411 hP hD hS => ?_)
  obtain ⟨hr1411, hW1⟩ := hz1411
  refine lv_pop2_2 hx hb dL_law_1414 rfl ?_
  refine lv_aload_n hx hb dL_law_1415 rfl (lv_at hl 2 rfl) ?_
  refine lv_aload_n hx hb dL_law_1416 rfl (lv_at hl 0 rfl) ?_
  refine lv_iload_n hx hb dL_law_1417 rfl (lv_at hl 3 rfl) ?_
  refine lv_iconst (v := 1) hx hb dL_law_1418 (by decide) ?_
  refine lv_iadd hx hb dL_law_1419 ?_
  refine va_sld hx hb hX hbl hbA hS (lw_ix 1 h6 hL (by decide)) dL_law_1420 ?_
  refine lv_topi (nm_r (e' := xs (nI ii + 1).toNatClampNeg) rfl ?_)
  refine lv_aload_n hx hb dL_law_1421 rfl (lv_at hl 0 rfl) ?_
  refine lv_iload_n hx hb dL_law_1422 rfl (lv_at hl 3 rfl) ?_
  refine lv_iconst (v := 2) hx hb dL_law_1423 (by decide) ?_
  refine lv_iadd hx hb dL_law_1424 ?_
  refine va_sld hx hb hX hbl hbA hS (lw_ix 2 h6 hL (by decide)) dL_law_1425 ?_
  refine lv_topi (nm_r (e' := xs (nI ii + 2).toNatClampNeg) rfl ?_)
  refine lv_aload_n hx hb dL_law_1426 rfl (lv_at hl 0 rfl) ?_
  refine lv_iload_n hx hb dL_law_1427 rfl (lv_at hl 3 rfl) ?_
  refine lv_iconst (v := 3) hx hb dL_law_1428 (by decide) ?_
  refine lv_iadd hx hb dL_law_1429 ?_
  refine va_sld hx hb hX hbl hbA hS (lw_ix 3 h6 hL (by decide)) dL_law_1430 ?_
  refine lv_topi (nm_r (e' := xs (nI ii + 3).toNatClampNeg) rfl ?_)
  have hP := pm_Pp List.perm_append_comm hP
  have hD := pm_Dp List.perm_append_comm hD
  refine lc_l (X := M) (Rr := W1) (va_runV (As := [.int (xs (nI ii + 1).toNatClampNeg), .int (xs (nI ii + 2).toNatClampNeg), .int (xs (nI ii + 3).toNatClampNeg)]) (rest := []) ⟨hx, hb, hml, hown, hts⟩ (cm_X12_mean l g cI cJ cB cZ cL kA vA y M H.size hM (xs (nI ii + 1).toNatClampNeg) (xs (nI ii + 2).toNatClampNeg) (xs (nI ii + 3).toNatClampNeg)) (cwV 3 hts (goodIn_app (g_4 (List.mem_cons_of_mem _ (List.mem_append_left _ (List.mem_of_getElem? (i := 215) rfl))) (List.mem_cons_of_mem _ (List.mem_append_left _ (List.mem_of_getElem? (i := 216) rfl))) (List.mem_cons_of_mem _ (List.mem_append_left _ (List.mem_of_getElem? (i := 217) rfl))) (List.mem_cons_of_mem _ (List.mem_append_left _ (List.mem_of_getElem? (i := 7) rfl))) (by decide +kernel)) (goodIn_sub ml_v_X12_mean good_v_X12_mean)) rfl rfl rfl (by decide +kernel) ⟨Nat.le_of_ble_eq_true rfl, Nat.le_of_ble_eq_true rfl⟩) (lc_pre (ci := 11) (q := (RX12, TX12, 56)) hK hE hS hA hP hD rfl (mt_mem hM)) rfl rfl hl.1 rfl (lv_room (Nat.le_of_ble_eq_true rfl)) dL_law_1431 ⟨(by show (1000 + 2 * ii) + 0 + 0 ≤ 600000; omega), (by show (100000 + 25 * ii) + 0 + 0 ≤ 7302250; omega)⟩) hS hA hP hD (fun r1431 W2 H locs hz1431 hP hD hS => ?_)
  obtain ⟨hr1431, hW2⟩ := hz1431
  have hP := pm_Pp List.perm_append_comm hP
  have hD := pm_Dp List.perm_append_comm hD
  refine lv_pop2_2 hx hb dL_law_1434 rfl ?_
  refine lv_goto (tgt := 2459) hx hb dL_law_1435 (by decide) ?_
  refine W.widen (k := 1009 + 2 * ii) (n := 100145 + 25 * ii) (by omega) (by omega) ?_
  exact hend _ _ _ W1 W2 _ _ _ _ _ _ hW1 hW2 hJ hP hD hS hl
set_option maxHeartbeats 4000000 in
set_option maxRecDepth 100000 in
theorem lw_c36 {p : Program} {e : Env} {s : State} {m : MethodId} {below : List Frame} {meth : Method} {c : Code} (l : Launch) {sb L : Nat} {xs : Nat → Int32} (hL : L ≤ 3072) (C0 : lw_At p s m meth c sb L xs) {g : va_G} {cI cJ cB cZ cL : ClassId} (hK : va_K g vwCl (tyT cI cJ cB cZ cL) s) {kA vA : Nat → Nat} (hE : ENV kA vA (fun q : Nat => s.heap.size ≤ q) s) {x y : Nat} {ii : Nat} (h6 : ii + 6 ≤ L) (hend : ∀ (H : Heap) (locs : List Loc) (ls : Array Slot) (XT M : va_W) (sw sn ki mw mn kp : Nat → Int32) (hXT : XTSt cI cJ cB cZ cL x sw sn ki XT) (hM : MSt cI cJ cB cZ cL y mw mn kp M) (hJ : JJ sw sn ki mw mn kp) (hP : va_P g vwCl (XT ++ M) H) (hD : va_D (fun q : Nat => s.heap.size ≤ q) (XT ++ M)) (hS : va_S (fun q : Nat => s.heap.size ≤ q) s.heap H locs) (hl : lv_has ls 4 [(0, .ref sb), (1, .ref x), (2, .ref y), (3, .int (nI ii))]), W p l e room_1 s m #[Value.ref sb] below meth c H locs (1009 + 2 * ii) (100145 + 25 * ii) (lw_Z below #[Value.ref sb] s) (F0 m 2459 ls [])) (H : Heap) (locs : List Loc) (ls : Array Slot) (XT M : va_W) (sw sn ki mw mn kp : Nat → Int32) (hXT : XTSt cI cJ cB cZ cL x sw sn ki XT) (hM : MSt cI cJ cB cZ cL y mw mn kp M) (hJ : JJ sw sn ki mw mn kp) (hP : va_P g vwCl (XT ++ M) H) (hD : va_D (fun q : Nat => s.heap.size ≤ q) (XT ++ M)) (hS : va_S (fun q : Nat => s.heap.size ≤ q) s.heap H locs) (hl : lv_has ls 4 [(0, .ref sb), (1, .ref x), (2, .ref y), (3, .int (nI ii))]) : W p l e room_1 s m #[Value.ref sb] below meth c H locs (1000 + 2 * ii) (100000 + 25 * ii) (lw_Z below #[Value.ref sb] s) (F0 m 1438 ls []) := by
  obtain ⟨hx, hb, hr, hml, hown, hts0, hX, hbl, hlocks, hgv⟩ := id C0
  have hts : ∀ w ∈ v_L_law, w.before #[Value.ref sb] s = true := fun w h => hts0 w (in_v_L_law w h)
  have hown : s.vm.findClass RL = some m.cls := hown
  have hA : ∀ q : Nat, s.heap.size ≤ q → (fun q : Nat => s.heap.size ≤ q) q := fun _ h => h
  have hbA : ¬ (fun q : Nat => s.heap.size ≤ q) sb := Nat.not_le.mpr hbl
  refine lv_aload_n hx hb dL_law_1438 rfl (lv_at hl 1 rfl) ?_
  refine lv_aload_n hx hb dL_law_1439 rfl (lv_at hl 0 rfl) ?_
  refine lv_iload_n hx hb dL_law_1440 rfl (lv_at hl 3 rfl) ?_
  refine lv_iconst (v := 1) hx hb dL_law_1441 (by decide) ?_
  refine lv_iadd hx hb dL_law_1442 ?_
  refine va_sld hx hb hX hbl hbA hS (lw_ix 1 h6 hL (by decide)) dL_law_1443 ?_
  refine lv_topi (nm_r (e' := xs (nI ii + 1).toNatClampNeg) rfl ?_)
  refine lv_aload_n hx hb dL_law_1444 rfl (lv_at hl 0 rfl) ?_
  refine lv_iload_n hx hb dL_law_1445 rfl (lv_at hl 3 rfl) ?_
  refine lv_iconst (v := 2) hx hb dL_law_1446 (by decide) ?_
  refine lv_iadd hx hb dL_law_1447 ?_
  refine va_sld hx hb hX hbl hbA hS (lw_ix 2 h6 hL (by decide)) dL_law_1448 ?_
  refine lv_topi (nm_r (e' := xs (nI ii + 2).toNatClampNeg) rfl ?_)
  refine lv_aload_n hx hb dL_law_1449 rfl (lv_at hl 0 rfl) ?_
  refine lv_iload_n hx hb dL_law_1450 rfl (lv_at hl 3 rfl) ?_
  refine lv_iconst (v := 3) hx hb dL_law_1451 (by decide) ?_
  refine lv_iadd hx hb dL_law_1452 ?_
  refine va_sld hx hb hX hbl hbA hS (lw_ix 3 h6 hL (by decide)) dL_law_1453 ?_
  refine lv_topi (nm_r (e' := xs (nI ii + 3).toNatClampNeg) rfl ?_)
  refine lc_i (X := XT) (Rr := M) (va_runV (As := [.int (xs (nI ii + 1).toNatClampNeg), .int (xs (nI ii + 2).toNatClampNeg), .int (xs (nI ii + 3).toNatClampNeg)]) (rest := []) ⟨hx, hb, hml, hown, hts⟩ (lift_i (fun im X hX => cx_X11_ending l g cI cJ cB cZ cL kA vA x im X H.size hX (xs (nI ii + 1).toNatClampNeg) (xs (nI ii + 2).toNatClampNeg) (xs (nI ii + 3).toNatClampNeg)) hXT) (cwV 3 hts (goodIn_app (g_4 (List.mem_cons_of_mem _ (List.mem_append_left _ (List.mem_of_getElem? (i := 218) rfl))) (List.mem_cons_of_mem _ (List.mem_append_left _ (List.mem_of_getElem? (i := 219) rfl))) (List.mem_cons_of_mem _ (List.mem_append_left _ (List.mem_of_getElem? (i := 220) rfl))) (List.mem_cons_of_mem _ (List.mem_append_left _ (List.mem_of_getElem? (i := 3) rfl))) (by decide +kernel)) (goodIn_sub ml_v_X11_ending good_v_X11_ending)) rfl rfl rfl (by decide +kernel) ⟨Nat.le_of_ble_eq_true rfl, Nat.le_of_ble_eq_true rfl⟩) (lc_pre (ci := 10) (q := (RX11, TX11, 11)) hK hE hS hA hP hD rfl (xt_mem hXT)) rfl rfl hl.1 rfl (lv_room (Nat.le_of_ble_eq_true rfl)) dL_law_1454 ⟨(by show (1000 + 2 * ii) + 0 ≤ 600000; omega), (by show (100000 + 25 * ii) + 0 ≤ 7302250; omega)⟩) hS hA hP hD (fun r1454 W1 H locs hz1454 hP hD hS => ?_)
  obtain ⟨hr1454, hW1⟩ := hz1454
  refine lv_pop hx hb dL_law_1457 rfl ?_
  refine lv_aload_n hx hb dL_law_1458 rfl (lv_at hl 2 rfl) ?_
  refine lv_aload_n hx hb dL_law_1459 rfl (lv_at hl 0 rfl) ?_
  refine lv_iload_n hx hb dL_law_1460 rfl (lv_at hl 3 rfl) ?_
  refine lv_iconst (v := 1) hx hb dL_law_1461 (by decide) ?_
  refine lv_iadd hx hb dL_law_1462 ?_
  refine va_sld hx hb hX hbl hbA hS (lw_ix 1 h6 hL (by decide)) dL_law_1463 ?_
  refine lv_topi (nm_r (e' := xs (nI ii + 1).toNatClampNeg) rfl ?_)
  refine lv_aload_n hx hb dL_law_1464 rfl (lv_at hl 0 rfl) ?_
  refine lv_iload_n hx hb dL_law_1465 rfl (lv_at hl 3 rfl) ?_
  refine lv_iconst (v := 2) hx hb dL_law_1466 (by decide) ?_
  refine lv_iadd hx hb dL_law_1467 ?_
  refine va_sld hx hb hX hbl hbA hS (lw_ix 2 h6 hL (by decide)) dL_law_1468 ?_
  refine lv_topi (nm_r (e' := xs (nI ii + 2).toNatClampNeg) rfl ?_)
  refine lv_aload_n hx hb dL_law_1469 rfl (lv_at hl 0 rfl) ?_
  refine lv_iload_n hx hb dL_law_1470 rfl (lv_at hl 3 rfl) ?_
  refine lv_iconst (v := 3) hx hb dL_law_1471 (by decide) ?_
  refine lv_iadd hx hb dL_law_1472 ?_
  refine va_sld hx hb hX hbl hbA hS (lw_ix 3 h6 hL (by decide)) dL_law_1473 ?_
  refine lv_topi (nm_r (e' := xs (nI ii + 3).toNatClampNeg) rfl ?_)
  have hP := pm_Pp List.perm_append_comm hP
  have hD := pm_Dp List.perm_append_comm hD
  refine lc_i (X := M) (Rr := W1) (va_runV (As := [.int (xs (nI ii + 1).toNatClampNeg), .int (xs (nI ii + 2).toNatClampNeg), .int (xs (nI ii + 3).toNatClampNeg)]) (rest := []) ⟨hx, hb, hml, hown, hts⟩ (cm_X12_ending l g cI cJ cB cZ cL kA vA y M H.size hM (xs (nI ii + 1).toNatClampNeg) (xs (nI ii + 2).toNatClampNeg) (xs (nI ii + 3).toNatClampNeg)) (cwV 3 hts (goodIn_app (g_4 (List.mem_cons_of_mem _ (List.mem_append_left _ (List.mem_of_getElem? (i := 221) rfl))) (List.mem_cons_of_mem _ (List.mem_append_left _ (List.mem_of_getElem? (i := 222) rfl))) (List.mem_cons_of_mem _ (List.mem_append_left _ (List.mem_of_getElem? (i := 223) rfl))) (List.mem_cons_of_mem _ (List.mem_append_left _ (List.mem_of_getElem? (i := 7) rfl))) (by decide +kernel)) (goodIn_sub ml_v_X12_ending good_v_X12_ending)) rfl rfl rfl (by decide +kernel) ⟨Nat.le_of_ble_eq_true rfl, Nat.le_of_ble_eq_true rfl⟩) (lc_pre (ci := 11) (q := (RX12, TX12, 56)) hK hE hS hA hP hD rfl (mt_mem hM)) rfl rfl hl.1 rfl (lv_room (Nat.le_of_ble_eq_true rfl)) dL_law_1474 ⟨(by show (1000 + 2 * ii) + 0 + 0 ≤ 600000; omega), (by show (100000 + 25 * ii) + 0 + 0 ≤ 7302250; omega)⟩) hS hA hP hD (fun r1474 W2 H locs hz1474 hP hD hS => ?_)
  obtain ⟨hr1474, hW2⟩ := hz1474
  have hP := pm_Pp List.perm_append_comm hP
  have hD := pm_Dp List.perm_append_comm hD
  refine lv_pop hx hb dL_law_1477 rfl ?_
  refine lv_goto (tgt := 2459) hx hb dL_law_1478 (by decide) ?_
  refine W.widen (k := 1009 + 2 * ii) (n := 100145 + 25 * ii) (by omega) (by omega) ?_
  exact hend _ _ _ W1 W2 _ _ _ _ _ _ hW1 hW2 hJ hP hD hS hl
set_option maxHeartbeats 4000000 in
set_option maxRecDepth 100000 in
theorem lw_c37 {p : Program} {e : Env} {s : State} {m : MethodId} {below : List Frame} {meth : Method} {c : Code} (l : Launch) {sb L : Nat} {xs : Nat → Int32} (hL : L ≤ 3072) (C0 : lw_At p s m meth c sb L xs) {g : va_G} {cI cJ cB cZ cL : ClassId} (hK : va_K g vwCl (tyT cI cJ cB cZ cL) s) {kA vA : Nat → Nat} (hE : ENV kA vA (fun q : Nat => s.heap.size ≤ q) s) {x y : Nat} {ii : Nat} (h6 : ii + 6 ≤ L) (hend : ∀ (H : Heap) (locs : List Loc) (ls : Array Slot) (XT M : va_W) (sw sn ki mw mn kp : Nat → Int32) (hXT : XTSt cI cJ cB cZ cL x sw sn ki XT) (hM : MSt cI cJ cB cZ cL y mw mn kp M) (hJ : JJ sw sn ki mw mn kp) (hP : va_P g vwCl (XT ++ M) H) (hD : va_D (fun q : Nat => s.heap.size ≤ q) (XT ++ M)) (hS : va_S (fun q : Nat => s.heap.size ≤ q) s.heap H locs) (hl : lv_has ls 4 [(0, .ref sb), (1, .ref x), (2, .ref y), (3, .int (nI ii))]), W p l e room_1 s m #[Value.ref sb] below meth c H locs (1009 + 2 * ii) (100145 + 25 * ii) (lw_Z below #[Value.ref sb] s) (F0 m 2459 ls [])) (H : Heap) (locs : List Loc) (ls : Array Slot) (XT M : va_W) (sw sn ki mw mn kp : Nat → Int32) (hXT : XTSt cI cJ cB cZ cL x sw sn ki XT) (hM : MSt cI cJ cB cZ cL y mw mn kp M) (hJ : JJ sw sn ki mw mn kp) (hP : va_P g vwCl (XT ++ M) H) (hD : va_D (fun q : Nat => s.heap.size ≤ q) (XT ++ M)) (hS : va_S (fun q : Nat => s.heap.size ≤ q) s.heap H locs) (hl : lv_has ls 4 [(0, .ref sb), (1, .ref x), (2, .ref y), (3, .int (nI ii))]) : W p l e room_1 s m #[Value.ref sb] below meth c H locs (1000 + 2 * ii) (100000 + 25 * ii) (lw_Z below #[Value.ref sb] s) (F0 m 1481 ls []) := by
  obtain ⟨hx, hb, hr, hml, hown, hts0, hX, hbl, hlocks, hgv⟩ := id C0
  have hts : ∀ w ∈ v_L_law, w.before #[Value.ref sb] s = true := fun w h => hts0 w (in_v_L_law w h)
  have hown : s.vm.findClass RL = some m.cls := hown
  have hA : ∀ q : Nat, s.heap.size ≤ q → (fun q : Nat => s.heap.size ≤ q) q := fun _ h => h
  have hbA : ¬ (fun q : Nat => s.heap.size ≤ q) sb := Nat.not_le.mpr hbl
  refine lv_aload_n hx hb dL_law_1481 rfl (lv_at hl 1 rfl) ?_
  refine lv_aload_n hx hb dL_law_1482 rfl (lv_at hl 0 rfl) ?_
  refine lv_iload_n hx hb dL_law_1483 rfl (lv_at hl 3 rfl) ?_
  refine lv_iconst (v := 1) hx hb dL_law_1484 (by decide) ?_
  refine lv_iadd hx hb dL_law_1485 ?_
  refine va_sld hx hb hX hbl hbA hS (lw_ix 1 h6 hL (by decide)) dL_law_1486 ?_
  refine lv_topi (nm_r (e' := xs (nI ii + 1).toNatClampNeg) rfl ?_)
  refine lv_aload_n hx hb dL_law_1487 rfl (lv_at hl 0 rfl) ?_
  refine lv_iload_n hx hb dL_law_1488 rfl (lv_at hl 3 rfl) ?_
  refine lv_iconst (v := 2) hx hb dL_law_1489 (by decide) ?_
  refine lv_iadd hx hb dL_law_1490 ?_
  refine va_sld hx hb hX hbl hbA hS (lw_ix 2 h6 hL (by decide)) dL_law_1491 ?_
  refine lv_topi (nm_r (e' := xs (nI ii + 2).toNatClampNeg) rfl ?_)
  refine lv_aload_n hx hb dL_law_1492 rfl (lv_at hl 0 rfl) ?_
  refine lv_iload_n hx hb dL_law_1493 rfl (lv_at hl 3 rfl) ?_
  refine lv_iconst (v := 3) hx hb dL_law_1494 (by decide) ?_
  refine lv_iadd hx hb dL_law_1495 ?_
  refine va_sld hx hb hX hbl hbA hS (lw_ix 3 h6 hL (by decide)) dL_law_1496 ?_
  refine lv_topi (nm_r (e' := xs (nI ii + 3).toNatClampNeg) rfl ?_)
  refine lv_aload_n hx hb dL_law_1497 rfl (lv_at hl 0 rfl) ?_
  refine lv_iload_n hx hb dL_law_1498 rfl (lv_at hl 3 rfl) ?_
  refine lv_iconst (v := 4) hx hb dL_law_1499 (by decide) ?_
  refine lv_iadd hx hb dL_law_1500 ?_
  refine va_sld hx hb hX hbl hbA hS (lw_ix 4 h6 hL (by decide)) dL_law_1501 ?_
  refine lv_topi (nm_r (e' := xs (nI ii + 4).toNatClampNeg) rfl ?_)
  refine lc_i (X := XT) (Rr := M) (va_runV (As := [.int (xs (nI ii + 1).toNatClampNeg), .int (xs (nI ii + 2).toNatClampNeg), .int (xs (nI ii + 3).toNatClampNeg), .int (xs (nI ii + 4).toNatClampNeg)]) (rest := []) ⟨hx, hb, hml, hown, hts⟩ (lift_i (fun im X hX => cx_X11_step l g cI cJ cB cZ cL kA vA x im X H.size hX (xs (nI ii + 1).toNatClampNeg) (xs (nI ii + 2).toNatClampNeg) (xs (nI ii + 3).toNatClampNeg) (xs (nI ii + 4).toNatClampNeg)) hXT) (cwV 4 hts (goodIn_app (g_4 (List.mem_cons_of_mem _ (List.mem_append_left _ (List.mem_of_getElem? (i := 224) rfl))) (List.mem_cons_of_mem _ (List.mem_append_left _ (List.mem_of_getElem? (i := 225) rfl))) (List.mem_cons_of_mem _ (List.mem_append_left _ (List.mem_of_getElem? (i := 226) rfl))) (List.mem_cons_of_mem _ (List.mem_append_left _ (List.mem_of_getElem? (i := 3) rfl))) (by decide +kernel)) (goodIn_sub ml_v_X11_step good_v_X11_step)) rfl rfl rfl (by decide +kernel) ⟨Nat.le_of_ble_eq_true rfl, Nat.le_of_ble_eq_true rfl⟩) (lc_pre (ci := 10) (q := (RX11, TX11, 11)) hK hE hS hA hP hD rfl (xt_mem hXT)) rfl rfl hl.1 rfl (lv_room (Nat.le_of_ble_eq_true rfl)) dL_law_1502 ⟨(by show (1000 + 2 * ii) + 0 ≤ 600000; omega), (by show (100000 + 25 * ii) + 0 ≤ 7302250; omega)⟩) hS hA hP hD (fun r1502 W1 H locs hz1502 hP hD hS => ?_)
  obtain ⟨hr1502, hW1⟩ := hz1502
  refine lv_pop hx hb dL_law_1505 rfl ?_
  refine lv_aload_n hx hb dL_law_1506 rfl (lv_at hl 2 rfl) ?_
  refine lv_aload_n hx hb dL_law_1507 rfl (lv_at hl 0 rfl) ?_
  refine lv_iload_n hx hb dL_law_1508 rfl (lv_at hl 3 rfl) ?_
  refine lv_iconst (v := 1) hx hb dL_law_1509 (by decide) ?_
  refine lv_iadd hx hb dL_law_1510 ?_
  refine va_sld hx hb hX hbl hbA hS (lw_ix 1 h6 hL (by decide)) dL_law_1511 ?_
  refine lv_topi (nm_r (e' := xs (nI ii + 1).toNatClampNeg) rfl ?_)
  refine lv_aload_n hx hb dL_law_1512 rfl (lv_at hl 0 rfl) ?_
  refine lv_iload_n hx hb dL_law_1513 rfl (lv_at hl 3 rfl) ?_
  refine lv_iconst (v := 2) hx hb dL_law_1514 (by decide) ?_
  refine lv_iadd hx hb dL_law_1515 ?_
  refine va_sld hx hb hX hbl hbA hS (lw_ix 2 h6 hL (by decide)) dL_law_1516 ?_
  refine lv_topi (nm_r (e' := xs (nI ii + 2).toNatClampNeg) rfl ?_)
  refine lv_aload_n hx hb dL_law_1517 rfl (lv_at hl 0 rfl) ?_
  refine lv_iload_n hx hb dL_law_1518 rfl (lv_at hl 3 rfl) ?_
  refine lv_iconst (v := 3) hx hb dL_law_1519 (by decide) ?_
  refine lv_iadd hx hb dL_law_1520 ?_
  refine va_sld hx hb hX hbl hbA hS (lw_ix 3 h6 hL (by decide)) dL_law_1521 ?_
  refine lv_topi (nm_r (e' := xs (nI ii + 3).toNatClampNeg) rfl ?_)
  refine lv_aload_n hx hb dL_law_1522 rfl (lv_at hl 0 rfl) ?_
  refine lv_iload_n hx hb dL_law_1523 rfl (lv_at hl 3 rfl) ?_
  refine lv_iconst (v := 4) hx hb dL_law_1524 (by decide) ?_
  refine lv_iadd hx hb dL_law_1525 ?_
  refine va_sld hx hb hX hbl hbA hS (lw_ix 4 h6 hL (by decide)) dL_law_1526 ?_
  refine lv_topi (nm_r (e' := xs (nI ii + 4).toNatClampNeg) rfl ?_)
  have hP := pm_Pp List.perm_append_comm hP
  have hD := pm_Dp List.perm_append_comm hD
  refine lc_i (X := M) (Rr := W1) (va_runV (As := [.int (xs (nI ii + 1).toNatClampNeg), .int (xs (nI ii + 2).toNatClampNeg), .int (xs (nI ii + 3).toNatClampNeg), .int (xs (nI ii + 4).toNatClampNeg)]) (rest := []) ⟨hx, hb, hml, hown, hts⟩ (cm_X12_step l g cI cJ cB cZ cL kA vA y M H.size hM (xs (nI ii + 1).toNatClampNeg) (xs (nI ii + 2).toNatClampNeg) (xs (nI ii + 3).toNatClampNeg) (xs (nI ii + 4).toNatClampNeg)) (cwV 4 hts (goodIn_app (g_4 (List.mem_cons_of_mem _ (List.mem_append_left _ (List.mem_of_getElem? (i := 227) rfl))) (List.mem_cons_of_mem _ (List.mem_append_left _ (List.mem_of_getElem? (i := 228) rfl))) (List.mem_cons_of_mem _ (List.mem_append_left _ (List.mem_of_getElem? (i := 229) rfl))) (List.mem_cons_of_mem _ (List.mem_append_left _ (List.mem_of_getElem? (i := 7) rfl))) (by decide +kernel)) (goodIn_sub ml_v_X12_step good_v_X12_step)) rfl rfl rfl (by decide +kernel) ⟨Nat.le_of_ble_eq_true rfl, Nat.le_of_ble_eq_true rfl⟩) (lc_pre (ci := 11) (q := (RX12, TX12, 56)) hK hE hS hA hP hD rfl (mt_mem hM)) rfl rfl hl.1 rfl (lv_room (Nat.le_of_ble_eq_true rfl)) dL_law_1527 ⟨(by show (1000 + 2 * ii) + 0 + 0 ≤ 600000; omega), (by show (100000 + 25 * ii) + 0 + 0 ≤ 7302250; omega)⟩) hS hA hP hD (fun r1527 W2 H locs hz1527 hP hD hS => ?_)
  obtain ⟨hr1527, hW2⟩ := hz1527
  have hP := pm_Pp List.perm_append_comm hP
  have hD := pm_Dp List.perm_append_comm hD
  refine lv_pop hx hb dL_law_1530 rfl ?_
  refine lv_goto (tgt := 2459) hx hb dL_law_1531 (by decide) ?_
  refine W.widen (k := 1009 + 2 * ii) (n := 100145 + 25 * ii) (by omega) (by omega) ?_
  exact hend _ _ _ W1 W2 _ _ _ _ _ _ hW1 hW2 hJ hP hD hS hl
set_option maxHeartbeats 4000000 in
set_option maxRecDepth 100000 in
theorem lw_c38 {p : Program} {e : Env} {s : State} {m : MethodId} {below : List Frame} {meth : Method} {c : Code} (l : Launch) {sb L : Nat} {xs : Nat → Int32} (hL : L ≤ 3072) (C0 : lw_At p s m meth c sb L xs) {g : va_G} {cI cJ cB cZ cL : ClassId} (hK : va_K g vwCl (tyT cI cJ cB cZ cL) s) {kA vA : Nat → Nat} (hE : ENV kA vA (fun q : Nat => s.heap.size ≤ q) s) {x y : Nat} {ii : Nat} (h6 : ii + 6 ≤ L) (hend : ∀ (H : Heap) (locs : List Loc) (ls : Array Slot) (XT M : va_W) (sw sn ki mw mn kp : Nat → Int32) (hXT : XTSt cI cJ cB cZ cL x sw sn ki XT) (hM : MSt cI cJ cB cZ cL y mw mn kp M) (hJ : JJ sw sn ki mw mn kp) (hP : va_P g vwCl (XT ++ M) H) (hD : va_D (fun q : Nat => s.heap.size ≤ q) (XT ++ M)) (hS : va_S (fun q : Nat => s.heap.size ≤ q) s.heap H locs) (hl : lv_has ls 4 [(0, .ref sb), (1, .ref x), (2, .ref y), (3, .int (nI ii))]), W p l e room_1 s m #[Value.ref sb] below meth c H locs (1009 + 2 * ii) (100145 + 25 * ii) (lw_Z below #[Value.ref sb] s) (F0 m 2459 ls [])) (H : Heap) (locs : List Loc) (ls : Array Slot) (XT M : va_W) (sw sn ki mw mn kp : Nat → Int32) (hXT : XTSt cI cJ cB cZ cL x sw sn ki XT) (hM : MSt cI cJ cB cZ cL y mw mn kp M) (hJ : JJ sw sn ki mw mn kp) (hP : va_P g vwCl (XT ++ M) H) (hD : va_D (fun q : Nat => s.heap.size ≤ q) (XT ++ M)) (hS : va_S (fun q : Nat => s.heap.size ≤ q) s.heap H locs) (hl : lv_has ls 4 [(0, .ref sb), (1, .ref x), (2, .ref y), (3, .int (nI ii))]) : W p l e room_1 s m #[Value.ref sb] below meth c H locs (1000 + 2 * ii) (100000 + 25 * ii) (lw_Z below #[Value.ref sb] s) (F0 m 1534 ls []) := by
  obtain ⟨hx, hb, hr, hml, hown, hts0, hX, hbl, hlocks, hgv⟩ := id C0
  have hts : ∀ w ∈ v_L_law, w.before #[Value.ref sb] s = true := fun w h => hts0 w (in_v_L_law w h)
  have hown : s.vm.findClass RL = some m.cls := hown
  have hA : ∀ q : Nat, s.heap.size ≤ q → (fun q : Nat => s.heap.size ≤ q) q := fun _ h => h
  have hbA : ¬ (fun q : Nat => s.heap.size ≤ q) sb := Nat.not_le.mpr hbl
  refine lv_aload_n hx hb dL_law_1534 rfl (lv_at hl 1 rfl) ?_
  refine lv_aload_n hx hb dL_law_1535 rfl (lv_at hl 0 rfl) ?_
  refine lv_iload_n hx hb dL_law_1536 rfl (lv_at hl 3 rfl) ?_
  refine lv_iconst (v := 1) hx hb dL_law_1537 (by decide) ?_
  refine lv_iadd hx hb dL_law_1538 ?_
  refine va_sld hx hb hX hbl hbA hS (lw_ix 1 h6 hL (by decide)) dL_law_1539 ?_
  refine lv_topi (nm_r (e' := xs (nI ii + 1).toNatClampNeg) rfl ?_)
  refine lv_aload_n hx hb dL_law_1540 rfl (lv_at hl 0 rfl) ?_
  refine lv_iload_n hx hb dL_law_1541 rfl (lv_at hl 3 rfl) ?_
  refine lv_iconst (v := 2) hx hb dL_law_1542 (by decide) ?_
  refine lv_iadd hx hb dL_law_1543 ?_
  refine va_sld hx hb hX hbl hbA hS (lw_ix 2 h6 hL (by decide)) dL_law_1544 ?_
  refine lv_topi (nm_r (e' := xs (nI ii + 2).toNatClampNeg) rfl ?_)
  refine lv_aload_n hx hb dL_law_1545 rfl (lv_at hl 0 rfl) ?_
  refine lv_iload_n hx hb dL_law_1546 rfl (lv_at hl 3 rfl) ?_
  refine lv_iconst (v := 3) hx hb dL_law_1547 (by decide) ?_
  refine lv_iadd hx hb dL_law_1548 ?_
  refine va_sld hx hb hX hbl hbA hS (lw_ix 3 h6 hL (by decide)) dL_law_1549 ?_
  refine lv_topi (nm_r (e' := xs (nI ii + 3).toNatClampNeg) rfl ?_)
  refine lc_i (X := XT) (Rr := M) (va_runV (As := [.int (xs (nI ii + 1).toNatClampNeg), .int (xs (nI ii + 2).toNatClampNeg), .int (xs (nI ii + 3).toNatClampNeg)]) (rest := []) ⟨hx, hb, hml, hown, hts⟩ (lift_i (fun im X hX => cx_X11_keeping l g cI cJ cB cZ cL kA vA x im X H.size hX (xs (nI ii + 1).toNatClampNeg) (xs (nI ii + 2).toNatClampNeg) (xs (nI ii + 3).toNatClampNeg)) hXT) (cwV 3 hts (goodIn_app (g_4 (List.mem_cons_of_mem _ (List.mem_append_left _ (List.mem_of_getElem? (i := 230) rfl))) (List.mem_cons_of_mem _ (List.mem_append_left _ (List.mem_of_getElem? (i := 231) rfl))) (List.mem_cons_of_mem _ (List.mem_append_left _ (List.mem_of_getElem? (i := 232) rfl))) (List.mem_cons_of_mem _ (List.mem_append_left _ (List.mem_of_getElem? (i := 3) rfl))) (by decide +kernel)) (goodIn_sub ml_v_X11_keeping good_v_X11_keeping)) rfl rfl rfl (by decide +kernel) ⟨Nat.le_of_ble_eq_true rfl, Nat.le_of_ble_eq_true rfl⟩) (lc_pre (ci := 10) (q := (RX11, TX11, 11)) hK hE hS hA hP hD rfl (xt_mem hXT)) rfl rfl hl.1 rfl (lv_room (Nat.le_of_ble_eq_true rfl)) dL_law_1550 ⟨(by show (1000 + 2 * ii) + 0 ≤ 600000; omega), (by show (100000 + 25 * ii) + 0 ≤ 7302250; omega)⟩) hS hA hP hD (fun r1550 W1 H locs hz1550 hP hD hS => ?_)
  obtain ⟨hr1550, hW1⟩ := hz1550
  refine lv_pop hx hb dL_law_1553 rfl ?_
  refine lv_aload_n hx hb dL_law_1554 rfl (lv_at hl 2 rfl) ?_
  refine lv_aload_n hx hb dL_law_1555 rfl (lv_at hl 0 rfl) ?_
  refine lv_iload_n hx hb dL_law_1556 rfl (lv_at hl 3 rfl) ?_
  refine lv_iconst (v := 1) hx hb dL_law_1557 (by decide) ?_
  refine lv_iadd hx hb dL_law_1558 ?_
  refine va_sld hx hb hX hbl hbA hS (lw_ix 1 h6 hL (by decide)) dL_law_1559 ?_
  refine lv_topi (nm_r (e' := xs (nI ii + 1).toNatClampNeg) rfl ?_)
  refine lv_aload_n hx hb dL_law_1560 rfl (lv_at hl 0 rfl) ?_
  refine lv_iload_n hx hb dL_law_1561 rfl (lv_at hl 3 rfl) ?_
  refine lv_iconst (v := 2) hx hb dL_law_1562 (by decide) ?_
  refine lv_iadd hx hb dL_law_1563 ?_
  refine va_sld hx hb hX hbl hbA hS (lw_ix 2 h6 hL (by decide)) dL_law_1564 ?_
  refine lv_topi (nm_r (e' := xs (nI ii + 2).toNatClampNeg) rfl ?_)
  refine lv_aload_n hx hb dL_law_1565 rfl (lv_at hl 0 rfl) ?_
  refine lv_iload_n hx hb dL_law_1566 rfl (lv_at hl 3 rfl) ?_
  refine lv_iconst (v := 3) hx hb dL_law_1567 (by decide) ?_
  refine lv_iadd hx hb dL_law_1568 ?_
  refine va_sld hx hb hX hbl hbA hS (lw_ix 3 h6 hL (by decide)) dL_law_1569 ?_
  refine lv_topi (nm_r (e' := xs (nI ii + 3).toNatClampNeg) rfl ?_)
  have hP := pm_Pp List.perm_append_comm hP
  have hD := pm_Dp List.perm_append_comm hD
  refine lc_i (X := M) (Rr := W1) (va_runV (As := [.int (xs (nI ii + 1).toNatClampNeg), .int (xs (nI ii + 2).toNatClampNeg), .int (xs (nI ii + 3).toNatClampNeg)]) (rest := []) ⟨hx, hb, hml, hown, hts⟩ (cm_X12_keeping l g cI cJ cB cZ cL kA vA y M H.size hM (xs (nI ii + 1).toNatClampNeg) (xs (nI ii + 2).toNatClampNeg) (xs (nI ii + 3).toNatClampNeg)) (cwV 3 hts (goodIn_app (g_4 (List.mem_cons_of_mem _ (List.mem_append_left _ (List.mem_of_getElem? (i := 233) rfl))) (List.mem_cons_of_mem _ (List.mem_append_left _ (List.mem_of_getElem? (i := 234) rfl))) (List.mem_cons_of_mem _ (List.mem_append_left _ (List.mem_of_getElem? (i := 235) rfl))) (List.mem_cons_of_mem _ (List.mem_append_left _ (List.mem_of_getElem? (i := 7) rfl))) (by decide +kernel)) (goodIn_sub ml_v_X12_keeping good_v_X12_keeping)) rfl rfl rfl (by decide +kernel) ⟨Nat.le_of_ble_eq_true rfl, Nat.le_of_ble_eq_true rfl⟩) (lc_pre (ci := 11) (q := (RX12, TX12, 56)) hK hE hS hA hP hD rfl (mt_mem hM)) rfl rfl hl.1 rfl (lv_room (Nat.le_of_ble_eq_true rfl)) dL_law_1570 ⟨(by show (1000 + 2 * ii) + 0 + 0 ≤ 600000; omega), (by show (100000 + 25 * ii) + 0 + 0 ≤ 7302250; omega)⟩) hS hA hP hD (fun r1570 W2 H locs hz1570 hP hD hS => ?_)
  obtain ⟨hr1570, hW2⟩ := hz1570
  have hP := pm_Pp List.perm_append_comm hP
  have hD := pm_Dp List.perm_append_comm hD
  refine lv_pop hx hb dL_law_1573 rfl ?_
  refine lv_goto (tgt := 2459) hx hb dL_law_1574 (by decide) ?_
  refine W.widen (k := 1009 + 2 * ii) (n := 100145 + 25 * ii) (by omega) (by omega) ?_
  exact hend _ _ _ W1 W2 _ _ _ _ _ _ hW1 hW2 hJ hP hD hS hl
set_option maxHeartbeats 4000000 in
set_option maxRecDepth 100000 in
theorem lw_c39 {p : Program} {e : Env} {s : State} {m : MethodId} {below : List Frame} {meth : Method} {c : Code} (l : Launch) {sb L : Nat} {xs : Nat → Int32} (hL : L ≤ 3072) (C0 : lw_At p s m meth c sb L xs) {g : va_G} {cI cJ cB cZ cL : ClassId} (hK : va_K g vwCl (tyT cI cJ cB cZ cL) s) {kA vA : Nat → Nat} (hE : ENV kA vA (fun q : Nat => s.heap.size ≤ q) s) {x y : Nat} {ii : Nat} (h6 : ii + 6 ≤ L) (hend : ∀ (H : Heap) (locs : List Loc) (ls : Array Slot) (XT M : va_W) (sw sn ki mw mn kp : Nat → Int32) (hXT : XTSt cI cJ cB cZ cL x sw sn ki XT) (hM : MSt cI cJ cB cZ cL y mw mn kp M) (hJ : JJ sw sn ki mw mn kp) (hP : va_P g vwCl (XT ++ M) H) (hD : va_D (fun q : Nat => s.heap.size ≤ q) (XT ++ M)) (hS : va_S (fun q : Nat => s.heap.size ≤ q) s.heap H locs) (hl : lv_has ls 4 [(0, .ref sb), (1, .ref x), (2, .ref y), (3, .int (nI ii))]), W p l e room_1 s m #[Value.ref sb] below meth c H locs (1009 + 2 * ii) (100145 + 25 * ii) (lw_Z below #[Value.ref sb] s) (F0 m 2459 ls [])) (H : Heap) (locs : List Loc) (ls : Array Slot) (XT M : va_W) (sw sn ki mw mn kp : Nat → Int32) (hXT : XTSt cI cJ cB cZ cL x sw sn ki XT) (hM : MSt cI cJ cB cZ cL y mw mn kp M) (hJ : JJ sw sn ki mw mn kp) (hP : va_P g vwCl (XT ++ M) H) (hD : va_D (fun q : Nat => s.heap.size ≤ q) (XT ++ M)) (hS : va_S (fun q : Nat => s.heap.size ≤ q) s.heap H locs) (hl : lv_has ls 4 [(0, .ref sb), (1, .ref x), (2, .ref y), (3, .int (nI ii))]) : W p l e room_1 s m #[Value.ref sb] below meth c H locs (1000 + 2 * ii) (100000 + 25 * ii) (lw_Z below #[Value.ref sb] s) (F0 m 1577 ls []) := by
  obtain ⟨hx, hb, hr, hml, hown, hts0, hX, hbl, hlocks, hgv⟩ := id C0
  have hts : ∀ w ∈ v_L_law, w.before #[Value.ref sb] s = true := fun w h => hts0 w (in_v_L_law w h)
  have hown : s.vm.findClass RL = some m.cls := hown
  have hA : ∀ q : Nat, s.heap.size ≤ q → (fun q : Nat => s.heap.size ≤ q) q := fun _ h => h
  have hbA : ¬ (fun q : Nat => s.heap.size ≤ q) sb := Nat.not_le.mpr hbl
  refine lv_aload_n hx hb dL_law_1577 rfl (lv_at hl 1 rfl) ?_
  refine lv_aload_n hx hb dL_law_1578 rfl (lv_at hl 0 rfl) ?_
  refine lv_iload_n hx hb dL_law_1579 rfl (lv_at hl 3 rfl) ?_
  refine lv_iconst (v := 1) hx hb dL_law_1580 (by decide) ?_
  refine lv_iadd hx hb dL_law_1581 ?_
  refine va_sld hx hb hX hbl hbA hS (lw_ix 1 h6 hL (by decide)) dL_law_1582 ?_
  refine lv_topi (nm_r (e' := xs (nI ii + 1).toNatClampNeg) rfl ?_)
  refine lv_aload_n hx hb dL_law_1583 rfl (lv_at hl 0 rfl) ?_
  refine lv_iload_n hx hb dL_law_1584 rfl (lv_at hl 3 rfl) ?_
  refine lv_iconst (v := 2) hx hb dL_law_1585 (by decide) ?_
  refine lv_iadd hx hb dL_law_1586 ?_
  refine va_sld hx hb hX hbl hbA hS (lw_ix 2 h6 hL (by decide)) dL_law_1587 ?_
  refine lv_topi (nm_r (e' := xs (nI ii + 2).toNatClampNeg) rfl ?_)
  refine lv_aload_n hx hb dL_law_1588 rfl (lv_at hl 0 rfl) ?_
  refine lv_iload_n hx hb dL_law_1589 rfl (lv_at hl 3 rfl) ?_
  refine lv_iconst (v := 3) hx hb dL_law_1590 (by decide) ?_
  refine lv_iadd hx hb dL_law_1591 ?_
  refine va_sld hx hb hX hbl hbA hS (lw_ix 3 h6 hL (by decide)) dL_law_1592 ?_
  refine lv_topi (nm_r (e' := xs (nI ii + 3).toNatClampNeg) rfl ?_)
  refine lv_aload_n hx hb dL_law_1593 rfl (lv_at hl 0 rfl) ?_
  refine lv_iload_n hx hb dL_law_1594 rfl (lv_at hl 3 rfl) ?_
  refine lv_iconst (v := 4) hx hb dL_law_1595 (by decide) ?_
  refine lv_iadd hx hb dL_law_1596 ?_
  refine va_sld hx hb hX hbl hbA hS (lw_ix 4 h6 hL (by decide)) dL_law_1597 ?_
  refine lv_topi (nm_r (e' := xs (nI ii + 4).toNatClampNeg) rfl ?_)
  refine lc_i (X := XT) (Rr := M) (va_runV (As := [.int (xs (nI ii + 1).toNatClampNeg), .int (xs (nI ii + 2).toNatClampNeg), .int (xs (nI ii + 3).toNatClampNeg), .int (xs (nI ii + 4).toNatClampNeg)]) (rest := []) ⟨hx, hb, hml, hown, hts⟩ (lift_i (fun im X hX => cx_X11_pen l g cI cJ cB cZ cL kA vA x im X H.size hX (xs (nI ii + 1).toNatClampNeg) (xs (nI ii + 2).toNatClampNeg) (xs (nI ii + 3).toNatClampNeg) (xs (nI ii + 4).toNatClampNeg)) hXT) (cwV 4 hts (goodIn_app (g_4 (List.mem_cons_of_mem _ (List.mem_append_left _ (List.mem_of_getElem? (i := 236) rfl))) (List.mem_cons_of_mem _ (List.mem_append_left _ (List.mem_of_getElem? (i := 237) rfl))) (List.mem_cons_of_mem _ (List.mem_append_left _ (List.mem_of_getElem? (i := 238) rfl))) (List.mem_cons_of_mem _ (List.mem_append_left _ (List.mem_of_getElem? (i := 3) rfl))) (by decide +kernel)) (goodIn_sub ml_v_X11_pen good_v_X11_pen)) rfl rfl rfl (by decide +kernel) ⟨Nat.le_of_ble_eq_true rfl, Nat.le_of_ble_eq_true rfl⟩) (lc_pre (ci := 10) (q := (RX11, TX11, 11)) hK hE hS hA hP hD rfl (xt_mem hXT)) rfl rfl hl.1 rfl (lv_room (Nat.le_of_ble_eq_true rfl)) dL_law_1598 ⟨(by show (1000 + 2 * ii) + 0 ≤ 600000; omega), (by show (100000 + 25 * ii) + 0 ≤ 7302250; omega)⟩) hS hA hP hD (fun r1598 W1 H locs hz1598 hP hD hS => ?_)
  obtain ⟨hr1598, hW1⟩ := hz1598
  refine lv_pop hx hb dL_law_1601 rfl ?_
  refine lv_aload_n hx hb dL_law_1602 rfl (lv_at hl 2 rfl) ?_
  refine lv_aload_n hx hb dL_law_1603 rfl (lv_at hl 0 rfl) ?_
  refine lv_iload_n hx hb dL_law_1604 rfl (lv_at hl 3 rfl) ?_
  refine lv_iconst (v := 1) hx hb dL_law_1605 (by decide) ?_
  refine lv_iadd hx hb dL_law_1606 ?_
  refine va_sld hx hb hX hbl hbA hS (lw_ix 1 h6 hL (by decide)) dL_law_1607 ?_
  refine lv_topi (nm_r (e' := xs (nI ii + 1).toNatClampNeg) rfl ?_)
  refine lv_aload_n hx hb dL_law_1608 rfl (lv_at hl 0 rfl) ?_
  refine lv_iload_n hx hb dL_law_1609 rfl (lv_at hl 3 rfl) ?_
  refine lv_iconst (v := 2) hx hb dL_law_1610 (by decide) ?_
  refine lv_iadd hx hb dL_law_1611 ?_
  refine va_sld hx hb hX hbl hbA hS (lw_ix 2 h6 hL (by decide)) dL_law_1612 ?_
  refine lv_topi (nm_r (e' := xs (nI ii + 2).toNatClampNeg) rfl ?_)
  refine lv_aload_n hx hb dL_law_1613 rfl (lv_at hl 0 rfl) ?_
  refine lv_iload_n hx hb dL_law_1614 rfl (lv_at hl 3 rfl) ?_
  refine lv_iconst (v := 3) hx hb dL_law_1615 (by decide) ?_
  refine lv_iadd hx hb dL_law_1616 ?_
  refine va_sld hx hb hX hbl hbA hS (lw_ix 3 h6 hL (by decide)) dL_law_1617 ?_
  refine lv_topi (nm_r (e' := xs (nI ii + 3).toNatClampNeg) rfl ?_)
  refine lv_aload_n hx hb dL_law_1618 rfl (lv_at hl 0 rfl) ?_
  refine lv_iload_n hx hb dL_law_1619 rfl (lv_at hl 3 rfl) ?_
  refine lv_iconst (v := 4) hx hb dL_law_1620 (by decide) ?_
  refine lv_iadd hx hb dL_law_1621 ?_
  refine va_sld hx hb hX hbl hbA hS (lw_ix 4 h6 hL (by decide)) dL_law_1622 ?_
  refine lv_topi (nm_r (e' := xs (nI ii + 4).toNatClampNeg) rfl ?_)
  have hP := pm_Pp List.perm_append_comm hP
  have hD := pm_Dp List.perm_append_comm hD
  refine lc_i (X := M) (Rr := W1) (va_runV (As := [.int (xs (nI ii + 1).toNatClampNeg), .int (xs (nI ii + 2).toNatClampNeg), .int (xs (nI ii + 3).toNatClampNeg), .int (xs (nI ii + 4).toNatClampNeg)]) (rest := []) ⟨hx, hb, hml, hown, hts⟩ (cm_X12_pen l g cI cJ cB cZ cL kA vA y M H.size hM (xs (nI ii + 1).toNatClampNeg) (xs (nI ii + 2).toNatClampNeg) (xs (nI ii + 3).toNatClampNeg) (xs (nI ii + 4).toNatClampNeg)) (cwV 4 hts (goodIn_app (g_4 (List.mem_cons_of_mem _ (List.mem_append_left _ (List.mem_of_getElem? (i := 239) rfl))) (List.mem_cons_of_mem _ (List.mem_append_left _ (List.mem_of_getElem? (i := 240) rfl))) (List.mem_cons_of_mem _ (List.mem_append_left _ (List.mem_of_getElem? (i := 241) rfl))) (List.mem_cons_of_mem _ (List.mem_append_left _ (List.mem_of_getElem? (i := 7) rfl))) (by decide +kernel)) (goodIn_sub ml_v_X12_pen good_v_X12_pen)) rfl rfl rfl (by decide +kernel) ⟨Nat.le_of_ble_eq_true rfl, Nat.le_of_ble_eq_true rfl⟩) (lc_pre (ci := 11) (q := (RX12, TX12, 56)) hK hE hS hA hP hD rfl (mt_mem hM)) rfl rfl hl.1 rfl (lv_room (Nat.le_of_ble_eq_true rfl)) dL_law_1623 ⟨(by show (1000 + 2 * ii) + 0 + 0 ≤ 600000; omega), (by show (100000 + 25 * ii) + 0 + 0 ≤ 7302250; omega)⟩) hS hA hP hD (fun r1623 W2 H locs hz1623 hP hD hS => ?_)
  obtain ⟨hr1623, hW2⟩ := hz1623
  have hP := pm_Pp List.perm_append_comm hP
  have hD := pm_Dp List.perm_append_comm hD
  refine lv_pop hx hb dL_law_1626 rfl ?_
  refine lv_goto (tgt := 2459) hx hb dL_law_1627 (by decide) ?_
  refine W.widen (k := 1009 + 2 * ii) (n := 100145 + 25 * ii) (by omega) (by omega) ?_
  exact hend _ _ _ W1 W2 _ _ _ _ _ _ hW1 hW2 hJ hP hD hS hl
set_option maxHeartbeats 4000000 in
set_option maxRecDepth 100000 in
theorem lw_c40 {p : Program} {e : Env} {s : State} {m : MethodId} {below : List Frame} {meth : Method} {c : Code} (l : Launch) {sb L : Nat} {xs : Nat → Int32} (hL : L ≤ 3072) (C0 : lw_At p s m meth c sb L xs) {g : va_G} {cI cJ cB cZ cL : ClassId} (hK : va_K g vwCl (tyT cI cJ cB cZ cL) s) {kA vA : Nat → Nat} (hE : ENV kA vA (fun q : Nat => s.heap.size ≤ q) s) {x y : Nat} {ii : Nat} (h6 : ii + 6 ≤ L) (hend : ∀ (H : Heap) (locs : List Loc) (ls : Array Slot) (XT M : va_W) (sw sn ki mw mn kp : Nat → Int32) (hXT : XTSt cI cJ cB cZ cL x sw sn ki XT) (hM : MSt cI cJ cB cZ cL y mw mn kp M) (hJ : JJ sw sn ki mw mn kp) (hP : va_P g vwCl (XT ++ M) H) (hD : va_D (fun q : Nat => s.heap.size ≤ q) (XT ++ M)) (hS : va_S (fun q : Nat => s.heap.size ≤ q) s.heap H locs) (hl : lv_has ls 4 [(0, .ref sb), (1, .ref x), (2, .ref y), (3, .int (nI ii))]), W p l e room_1 s m #[Value.ref sb] below meth c H locs (1009 + 2 * ii) (100145 + 25 * ii) (lw_Z below #[Value.ref sb] s) (F0 m 2459 ls [])) (H : Heap) (locs : List Loc) (ls : Array Slot) (XT M : va_W) (sw sn ki mw mn kp : Nat → Int32) (hXT : XTSt cI cJ cB cZ cL x sw sn ki XT) (hM : MSt cI cJ cB cZ cL y mw mn kp M) (hJ : JJ sw sn ki mw mn kp) (hP : va_P g vwCl (XT ++ M) H) (hD : va_D (fun q : Nat => s.heap.size ≤ q) (XT ++ M)) (hS : va_S (fun q : Nat => s.heap.size ≤ q) s.heap H locs) (hl : lv_has ls 4 [(0, .ref sb), (1, .ref x), (2, .ref y), (3, .int (nI ii))]) : W p l e room_1 s m #[Value.ref sb] below meth c H locs (1000 + 2 * ii) (100000 + 25 * ii) (lw_Z below #[Value.ref sb] s) (F0 m 1630 ls []) := by
  obtain ⟨hx, hb, hr, hml, hown, hts0, hX, hbl, hlocks, hgv⟩ := id C0
  have hts : ∀ w ∈ v_L_law, w.before #[Value.ref sb] s = true := fun w h => hts0 w (in_v_L_law w h)
  have hown : s.vm.findClass RL = some m.cls := hown
  have hA : ∀ q : Nat, s.heap.size ≤ q → (fun q : Nat => s.heap.size ≤ q) q := fun _ h => h
  have hbA : ¬ (fun q : Nat => s.heap.size ≤ q) sb := Nat.not_le.mpr hbl
  refine lv_aload_n hx hb dL_law_1630 rfl (lv_at hl 1 rfl) ?_
  refine lv_aload_n hx hb dL_law_1631 rfl (lv_at hl 0 rfl) ?_
  refine lv_iload_n hx hb dL_law_1632 rfl (lv_at hl 3 rfl) ?_
  refine lv_iconst (v := 1) hx hb dL_law_1633 (by decide) ?_
  refine lv_iadd hx hb dL_law_1634 ?_
  refine va_sld hx hb hX hbl hbA hS (lw_ix 1 h6 hL (by decide)) dL_law_1635 ?_
  refine lv_topi (nm_r (e' := xs (nI ii + 1).toNatClampNeg) rfl ?_)
  refine lv_aload_n hx hb dL_law_1636 rfl (lv_at hl 0 rfl) ?_
  refine lv_iload_n hx hb dL_law_1637 rfl (lv_at hl 3 rfl) ?_
  refine lv_iconst (v := 2) hx hb dL_law_1638 (by decide) ?_
  refine lv_iadd hx hb dL_law_1639 ?_
  refine va_sld hx hb hX hbl hbA hS (lw_ix 2 h6 hL (by decide)) dL_law_1640 ?_
  refine lv_topi (nm_r (e' := xs (nI ii + 2).toNatClampNeg) rfl ?_)
  refine lv_aload_n hx hb dL_law_1641 rfl (lv_at hl 0 rfl) ?_
  refine lv_iload_n hx hb dL_law_1642 rfl (lv_at hl 3 rfl) ?_
  refine lv_iconst (v := 3) hx hb dL_law_1643 (by decide) ?_
  refine lv_iadd hx hb dL_law_1644 ?_
  refine va_sld hx hb hX hbl hbA hS (lw_ix 3 h6 hL (by decide)) dL_law_1645 ?_
  refine lv_topi (nm_r (e' := xs (nI ii + 3).toNatClampNeg) rfl ?_)
  refine lc_i (X := XT) (Rr := M) (va_runV (As := [.int (xs (nI ii + 1).toNatClampNeg), .int (xs (nI ii + 2).toNatClampNeg), .int (xs (nI ii + 3).toNatClampNeg)]) (rest := []) ⟨hx, hb, hml, hown, hts⟩ (lift_i (fun im X hX => cx_X11_quit l g cI cJ cB cZ cL kA vA x im X H.size hX (xs (nI ii + 1).toNatClampNeg) (xs (nI ii + 2).toNatClampNeg) (xs (nI ii + 3).toNatClampNeg)) hXT) (cwV 3 hts (goodIn_app (g_4 (List.mem_cons_of_mem _ (List.mem_append_left _ (List.mem_of_getElem? (i := 242) rfl))) (List.mem_cons_of_mem _ (List.mem_append_left _ (List.mem_of_getElem? (i := 243) rfl))) (List.mem_cons_of_mem _ (List.mem_append_left _ (List.mem_of_getElem? (i := 244) rfl))) (List.mem_cons_of_mem _ (List.mem_append_left _ (List.mem_of_getElem? (i := 3) rfl))) (by decide +kernel)) (goodIn_sub ml_v_X11_quit good_v_X11_quit)) rfl rfl rfl (by decide +kernel) ⟨Nat.le_of_ble_eq_true rfl, Nat.le_of_ble_eq_true rfl⟩) (lc_pre (ci := 10) (q := (RX11, TX11, 11)) hK hE hS hA hP hD rfl (xt_mem hXT)) rfl rfl hl.1 rfl (lv_room (Nat.le_of_ble_eq_true rfl)) dL_law_1646 ⟨(by show (1000 + 2 * ii) + 0 ≤ 600000; omega), (by show (100000 + 25 * ii) + 0 ≤ 7302250; omega)⟩) hS hA hP hD (fun r1646 W1 H locs hz1646 hP hD hS => ?_)
  obtain ⟨hr1646, hW1⟩ := hz1646
  refine lv_pop hx hb dL_law_1649 rfl ?_
  refine lv_aload_n hx hb dL_law_1650 rfl (lv_at hl 2 rfl) ?_
  refine lv_aload_n hx hb dL_law_1651 rfl (lv_at hl 0 rfl) ?_
  refine lv_iload_n hx hb dL_law_1652 rfl (lv_at hl 3 rfl) ?_
  refine lv_iconst (v := 1) hx hb dL_law_1653 (by decide) ?_
  refine lv_iadd hx hb dL_law_1654 ?_
  refine va_sld hx hb hX hbl hbA hS (lw_ix 1 h6 hL (by decide)) dL_law_1655 ?_
  refine lv_topi (nm_r (e' := xs (nI ii + 1).toNatClampNeg) rfl ?_)
  refine lv_aload_n hx hb dL_law_1656 rfl (lv_at hl 0 rfl) ?_
  refine lv_iload_n hx hb dL_law_1657 rfl (lv_at hl 3 rfl) ?_
  refine lv_iconst (v := 2) hx hb dL_law_1658 (by decide) ?_
  refine lv_iadd hx hb dL_law_1659 ?_
  refine va_sld hx hb hX hbl hbA hS (lw_ix 2 h6 hL (by decide)) dL_law_1660 ?_
  refine lv_topi (nm_r (e' := xs (nI ii + 2).toNatClampNeg) rfl ?_)
  refine lv_aload_n hx hb dL_law_1661 rfl (lv_at hl 0 rfl) ?_
  refine lv_iload_n hx hb dL_law_1662 rfl (lv_at hl 3 rfl) ?_
  refine lv_iconst (v := 3) hx hb dL_law_1663 (by decide) ?_
  refine lv_iadd hx hb dL_law_1664 ?_
  refine va_sld hx hb hX hbl hbA hS (lw_ix 3 h6 hL (by decide)) dL_law_1665 ?_
  refine lv_topi (nm_r (e' := xs (nI ii + 3).toNatClampNeg) rfl ?_)
  have hP := pm_Pp List.perm_append_comm hP
  have hD := pm_Dp List.perm_append_comm hD
  refine lc_i (X := M) (Rr := W1) (va_runV (As := [.int (xs (nI ii + 1).toNatClampNeg), .int (xs (nI ii + 2).toNatClampNeg), .int (xs (nI ii + 3).toNatClampNeg)]) (rest := []) ⟨hx, hb, hml, hown, hts⟩ (cm_X12_quit l g cI cJ cB cZ cL kA vA y M H.size hM (xs (nI ii + 1).toNatClampNeg) (xs (nI ii + 2).toNatClampNeg) (xs (nI ii + 3).toNatClampNeg)) (cwV 3 hts (goodIn_app (g_4 (List.mem_cons_of_mem _ (List.mem_append_left _ (List.mem_of_getElem? (i := 245) rfl))) (List.mem_cons_of_mem _ (List.mem_append_left _ (List.mem_of_getElem? (i := 246) rfl))) (List.mem_cons_of_mem _ (List.mem_append_left _ (List.mem_of_getElem? (i := 247) rfl))) (List.mem_cons_of_mem _ (List.mem_append_left _ (List.mem_of_getElem? (i := 7) rfl))) (by decide +kernel)) (goodIn_sub ml_v_X12_quit good_v_X12_quit)) rfl rfl rfl (by decide +kernel) ⟨Nat.le_of_ble_eq_true rfl, Nat.le_of_ble_eq_true rfl⟩) (lc_pre (ci := 11) (q := (RX12, TX12, 56)) hK hE hS hA hP hD rfl (mt_mem hM)) rfl rfl hl.1 rfl (lv_room (Nat.le_of_ble_eq_true rfl)) dL_law_1666 ⟨(by show (1000 + 2 * ii) + 0 + 0 ≤ 600000; omega), (by show (100000 + 25 * ii) + 0 + 0 ≤ 7302250; omega)⟩) hS hA hP hD (fun r1666 W2 H locs hz1666 hP hD hS => ?_)
  obtain ⟨hr1666, hW2⟩ := hz1666
  have hP := pm_Pp List.perm_append_comm hP
  have hD := pm_Dp List.perm_append_comm hD
  refine lv_pop hx hb dL_law_1669 rfl ?_
  refine lv_goto (tgt := 2459) hx hb dL_law_1670 (by decide) ?_
  refine W.widen (k := 1009 + 2 * ii) (n := 100145 + 25 * ii) (by omega) (by omega) ?_
  exact hend _ _ _ W1 W2 _ _ _ _ _ _ hW1 hW2 hJ hP hD hS hl
set_option maxHeartbeats 4000000 in
set_option maxRecDepth 100000 in
theorem lw_c41 {p : Program} {e : Env} {s : State} {m : MethodId} {below : List Frame} {meth : Method} {c : Code} (l : Launch) {sb L : Nat} {xs : Nat → Int32} (hL : L ≤ 3072) (C0 : lw_At p s m meth c sb L xs) {g : va_G} {cI cJ cB cZ cL : ClassId} (hK : va_K g vwCl (tyT cI cJ cB cZ cL) s) {kA vA : Nat → Nat} (hE : ENV kA vA (fun q : Nat => s.heap.size ≤ q) s) {x y : Nat} {ii : Nat} (h6 : ii + 6 ≤ L) (hend : ∀ (H : Heap) (locs : List Loc) (ls : Array Slot) (XT M : va_W) (sw sn ki mw mn kp : Nat → Int32) (hXT : XTSt cI cJ cB cZ cL x sw sn ki XT) (hM : MSt cI cJ cB cZ cL y mw mn kp M) (hJ : JJ sw sn ki mw mn kp) (hP : va_P g vwCl (XT ++ M) H) (hD : va_D (fun q : Nat => s.heap.size ≤ q) (XT ++ M)) (hS : va_S (fun q : Nat => s.heap.size ≤ q) s.heap H locs) (hl : lv_has ls 4 [(0, .ref sb), (1, .ref x), (2, .ref y), (3, .int (nI ii))]), W p l e room_1 s m #[Value.ref sb] below meth c H locs (1009 + 2 * ii) (100145 + 25 * ii) (lw_Z below #[Value.ref sb] s) (F0 m 2459 ls [])) (H : Heap) (locs : List Loc) (ls : Array Slot) (XT M : va_W) (sw sn ki mw mn kp : Nat → Int32) (hXT : XTSt cI cJ cB cZ cL x sw sn ki XT) (hM : MSt cI cJ cB cZ cL y mw mn kp M) (hJ : JJ sw sn ki mw mn kp) (hP : va_P g vwCl (XT ++ M) H) (hD : va_D (fun q : Nat => s.heap.size ≤ q) (XT ++ M)) (hS : va_S (fun q : Nat => s.heap.size ≤ q) s.heap H locs) (hl : lv_has ls 4 [(0, .ref sb), (1, .ref x), (2, .ref y), (3, .int (nI ii))]) : W p l e room_1 s m #[Value.ref sb] below meth c H locs (1000 + 2 * ii) (100000 + 25 * ii) (lw_Z below #[Value.ref sb] s) (F0 m 1673 ls []) := by
  obtain ⟨hx, hb, hr, hml, hown, hts0, hX, hbl, hlocks, hgv⟩ := id C0
  have hts : ∀ w ∈ v_L_law, w.before #[Value.ref sb] s = true := fun w h => hts0 w (in_v_L_law w h)
  have hown : s.vm.findClass RL = some m.cls := hown
  have hA : ∀ q : Nat, s.heap.size ≤ q → (fun q : Nat => s.heap.size ≤ q) q := fun _ h => h
  have hbA : ¬ (fun q : Nat => s.heap.size ≤ q) sb := Nat.not_le.mpr hbl
  refine lv_aload_n hx hb dL_law_1673 rfl (lv_at hl 1 rfl) ?_
  refine lv_aload_n hx hb dL_law_1674 rfl (lv_at hl 0 rfl) ?_
  refine lv_iload_n hx hb dL_law_1675 rfl (lv_at hl 3 rfl) ?_
  refine lv_iconst (v := 1) hx hb dL_law_1676 (by decide) ?_
  refine lv_iadd hx hb dL_law_1677 ?_
  refine va_sld hx hb hX hbl hbA hS (lw_ix 1 h6 hL (by decide)) dL_law_1678 ?_
  refine lv_topi (nm_r (e' := xs (nI ii + 1).toNatClampNeg) rfl ?_)
  refine lv_aload_n hx hb dL_law_1679 rfl (lv_at hl 0 rfl) ?_
  refine lv_iload_n hx hb dL_law_1680 rfl (lv_at hl 3 rfl) ?_
  refine lv_iconst (v := 2) hx hb dL_law_1681 (by decide) ?_
  refine lv_iadd hx hb dL_law_1682 ?_
  refine va_sld hx hb hX hbl hbA hS (lw_ix 2 h6 hL (by decide)) dL_law_1683 ?_
  refine lv_topi (nm_r (e' := xs (nI ii + 2).toNatClampNeg) rfl ?_)
  refine lc_i (X := XT) (Rr := M) (va_runV (As := [.int (xs (nI ii + 1).toNatClampNeg), .int (xs (nI ii + 2).toNatClampNeg)]) (rest := []) ⟨hx, hb, hml, hown, hts⟩ (lift_i (fun im X hX => cx_X11_when l g cI cJ cB cZ cL kA vA x im X H.size hX (xs (nI ii + 1).toNatClampNeg) (xs (nI ii + 2).toNatClampNeg)) hXT) (cwV 2 hts (goodIn_app (g_4 (List.mem_cons_of_mem _ (List.mem_append_left _ (List.mem_of_getElem? (i := 248) rfl))) (List.mem_cons_of_mem _ (List.mem_append_left _ (List.mem_of_getElem? (i := 249) rfl))) (List.mem_cons_of_mem _ (List.mem_append_left _ (List.mem_of_getElem? (i := 250) rfl))) (List.mem_cons_of_mem _ (List.mem_append_left _ (List.mem_of_getElem? (i := 3) rfl))) (by decide +kernel)) (goodIn_sub ml_v_X11_when good_v_X11_when)) rfl rfl rfl (by decide +kernel) ⟨Nat.le_of_ble_eq_true rfl, Nat.le_of_ble_eq_true rfl⟩) (lc_pre (ci := 10) (q := (RX11, TX11, 11)) hK hE hS hA hP hD rfl (xt_mem hXT)) rfl rfl hl.1 rfl (lv_room (Nat.le_of_ble_eq_true rfl)) dL_law_1684 ⟨(by show (1000 + 2 * ii) + 0 ≤ 600000; omega), (by show (100000 + 25 * ii) + 0 ≤ 7302250; omega)⟩) hS hA hP hD (fun r1684 W1 H locs hz1684 hP hD hS => ?_)
  obtain ⟨hr1684, hW1⟩ := hz1684
  refine lv_pop hx hb dL_law_1687 rfl ?_
  refine lv_aload_n hx hb dL_law_1688 rfl (lv_at hl 2 rfl) ?_
  refine lv_aload_n hx hb dL_law_1689 rfl (lv_at hl 0 rfl) ?_
  refine lv_iload_n hx hb dL_law_1690 rfl (lv_at hl 3 rfl) ?_
  refine lv_iconst (v := 1) hx hb dL_law_1691 (by decide) ?_
  refine lv_iadd hx hb dL_law_1692 ?_
  refine va_sld hx hb hX hbl hbA hS (lw_ix 1 h6 hL (by decide)) dL_law_1693 ?_
  refine lv_topi (nm_r (e' := xs (nI ii + 1).toNatClampNeg) rfl ?_)
  refine lv_aload_n hx hb dL_law_1694 rfl (lv_at hl 0 rfl) ?_
  refine lv_iload_n hx hb dL_law_1695 rfl (lv_at hl 3 rfl) ?_
  refine lv_iconst (v := 2) hx hb dL_law_1696 (by decide) ?_
  refine lv_iadd hx hb dL_law_1697 ?_
  refine va_sld hx hb hX hbl hbA hS (lw_ix 2 h6 hL (by decide)) dL_law_1698 ?_
  refine lv_topi (nm_r (e' := xs (nI ii + 2).toNatClampNeg) rfl ?_)
  have hP := pm_Pp List.perm_append_comm hP
  have hD := pm_Dp List.perm_append_comm hD
  refine lc_i (X := M) (Rr := W1) (va_runV (As := [.int (xs (nI ii + 1).toNatClampNeg), .int (xs (nI ii + 2).toNatClampNeg)]) (rest := []) ⟨hx, hb, hml, hown, hts⟩ (cm_X12_when l g cI cJ cB cZ cL kA vA y M H.size hM (xs (nI ii + 1).toNatClampNeg) (xs (nI ii + 2).toNatClampNeg)) (cwV 2 hts (goodIn_app (g_4 (List.mem_cons_of_mem _ (List.mem_append_left _ (List.mem_of_getElem? (i := 251) rfl))) (List.mem_cons_of_mem _ (List.mem_append_left _ (List.mem_of_getElem? (i := 252) rfl))) (List.mem_cons_of_mem _ (List.mem_append_left _ (List.mem_of_getElem? (i := 253) rfl))) (List.mem_cons_of_mem _ (List.mem_append_left _ (List.mem_of_getElem? (i := 7) rfl))) (by decide +kernel)) (goodIn_sub ml_v_X12_when good_v_X12_when)) rfl rfl rfl (by decide +kernel) ⟨Nat.le_of_ble_eq_true rfl, Nat.le_of_ble_eq_true rfl⟩) (lc_pre (ci := 11) (q := (RX12, TX12, 56)) hK hE hS hA hP hD rfl (mt_mem hM)) rfl rfl hl.1 rfl (lv_room (Nat.le_of_ble_eq_true rfl)) dL_law_1699 ⟨(by show (1000 + 2 * ii) + 0 + 0 ≤ 600000; omega), (by show (100000 + 25 * ii) + 0 + 0 ≤ 7302250; omega)⟩) hS hA hP hD (fun r1699 W2 H locs hz1699 hP hD hS => ?_)
  obtain ⟨hr1699, hW2⟩ := hz1699
  have hP := pm_Pp List.perm_append_comm hP
  have hD := pm_Dp List.perm_append_comm hD
  refine lv_pop hx hb dL_law_1702 rfl ?_
  refine lv_goto (tgt := 2459) hx hb dL_law_1703 (by decide) ?_
  refine W.widen (k := 1009 + 2 * ii) (n := 100145 + 25 * ii) (by omega) (by omega) ?_
  exact hend _ _ _ W1 W2 _ _ _ _ _ _ hW1 hW2 hJ hP hD hS hl
set_option maxHeartbeats 4000000 in
set_option maxRecDepth 100000 in
theorem lw_c42 {p : Program} {e : Env} {s : State} {m : MethodId} {below : List Frame} {meth : Method} {c : Code} (l : Launch) {sb L : Nat} {xs : Nat → Int32} (hL : L ≤ 3072) (C0 : lw_At p s m meth c sb L xs) {g : va_G} {cI cJ cB cZ cL : ClassId} (hK : va_K g vwCl (tyT cI cJ cB cZ cL) s) {kA vA : Nat → Nat} (hE : ENV kA vA (fun q : Nat => s.heap.size ≤ q) s) {x y : Nat} {ii : Nat} (h6 : ii + 6 ≤ L) (hend : ∀ (H : Heap) (locs : List Loc) (ls : Array Slot) (XT M : va_W) (sw sn ki mw mn kp : Nat → Int32) (hXT : XTSt cI cJ cB cZ cL x sw sn ki XT) (hM : MSt cI cJ cB cZ cL y mw mn kp M) (hJ : JJ sw sn ki mw mn kp) (hP : va_P g vwCl (XT ++ M) H) (hD : va_D (fun q : Nat => s.heap.size ≤ q) (XT ++ M)) (hS : va_S (fun q : Nat => s.heap.size ≤ q) s.heap H locs) (hl : lv_has ls 4 [(0, .ref sb), (1, .ref x), (2, .ref y), (3, .int (nI ii))]), W p l e room_1 s m #[Value.ref sb] below meth c H locs (1009 + 2 * ii) (100145 + 25 * ii) (lw_Z below #[Value.ref sb] s) (F0 m 2459 ls [])) (H : Heap) (locs : List Loc) (ls : Array Slot) (XT M : va_W) (sw sn ki mw mn kp : Nat → Int32) (hXT : XTSt cI cJ cB cZ cL x sw sn ki XT) (hM : MSt cI cJ cB cZ cL y mw mn kp M) (hJ : JJ sw sn ki mw mn kp) (hP : va_P g vwCl (XT ++ M) H) (hD : va_D (fun q : Nat => s.heap.size ≤ q) (XT ++ M)) (hS : va_S (fun q : Nat => s.heap.size ≤ q) s.heap H locs) (hl : lv_has ls 4 [(0, .ref sb), (1, .ref x), (2, .ref y), (3, .int (nI ii))]) : W p l e room_1 s m #[Value.ref sb] below meth c H locs (1000 + 2 * ii) (100000 + 25 * ii) (lw_Z below #[Value.ref sb] s) (F0 m 1706 ls []) := by
  obtain ⟨hx, hb, hr, hml, hown, hts0, hX, hbl, hlocks, hgv⟩ := id C0
  have hts : ∀ w ∈ v_L_law, w.before #[Value.ref sb] s = true := fun w h => hts0 w (in_v_L_law w h)
  have hown : s.vm.findClass RL = some m.cls := hown
  have hA : ∀ q : Nat, s.heap.size ≤ q → (fun q : Nat => s.heap.size ≤ q) q := fun _ h => h
  have hbA : ¬ (fun q : Nat => s.heap.size ≤ q) sb := Nat.not_le.mpr hbl
  refine lv_aload_n hx hb dL_law_1706 rfl (lv_at hl 1 rfl) ?_
  refine lv_aload_n hx hb dL_law_1707 rfl (lv_at hl 0 rfl) ?_
  refine lv_iload_n hx hb dL_law_1708 rfl (lv_at hl 3 rfl) ?_
  refine lv_iconst (v := 1) hx hb dL_law_1709 (by decide) ?_
  refine lv_iadd hx hb dL_law_1710 ?_
  refine va_sld hx hb hX hbl hbA hS (lw_ix 1 h6 hL (by decide)) dL_law_1711 ?_
  refine lv_topi (nm_r (e' := xs (nI ii + 1).toNatClampNeg) rfl ?_)
  refine lc_i (X := XT) (Rr := M) (va_runV (As := [.int (xs (nI ii + 1).toNatClampNeg)]) (rest := []) ⟨hx, hb, hml, hown, hts⟩ (lift_i (fun im X hX => cx_X11_best l g cI cJ cB cZ cL kA vA x im X H.size hX (xs (nI ii + 1).toNatClampNeg)) hXT) (cwV 1 hts (goodIn_app (g_4 (List.mem_cons_of_mem _ (List.mem_append_left _ (List.mem_of_getElem? (i := 254) rfl))) (List.mem_cons_of_mem _ (List.mem_append_left _ (List.mem_of_getElem? (i := 255) rfl))) (List.mem_cons_of_mem _ (List.mem_append_left _ (List.mem_of_getElem? (i := 256) rfl))) (List.mem_cons_of_mem _ (List.mem_append_left _ (List.mem_of_getElem? (i := 3) rfl))) (by decide +kernel)) (goodIn_sub ml_v_X11_best good_v_X11_best)) rfl rfl rfl (by decide +kernel) ⟨Nat.le_of_ble_eq_true rfl, Nat.le_of_ble_eq_true rfl⟩) (lc_pre (ci := 10) (q := (RX11, TX11, 11)) hK hE hS hA hP hD rfl (xt_mem hXT)) rfl rfl hl.1 rfl (lv_room (Nat.le_of_ble_eq_true rfl)) dL_law_1712 ⟨(by show (1000 + 2 * ii) + 0 ≤ 600000; omega), (by show (100000 + 25 * ii) + 0 ≤ 7302250; omega)⟩) hS hA hP hD (fun r1712 W1 H locs hz1712 hP hD hS => ?_)
  obtain ⟨hr1712, hW1⟩ := hz1712
  refine lv_pop hx hb dL_law_1715 rfl ?_
  refine lv_aload_n hx hb dL_law_1716 rfl (lv_at hl 2 rfl) ?_
  refine lv_aload_n hx hb dL_law_1717 rfl (lv_at hl 0 rfl) ?_
  refine lv_iload_n hx hb dL_law_1718 rfl (lv_at hl 3 rfl) ?_
  refine lv_iconst (v := 1) hx hb dL_law_1719 (by decide) ?_
  refine lv_iadd hx hb dL_law_1720 ?_
  refine va_sld hx hb hX hbl hbA hS (lw_ix 1 h6 hL (by decide)) dL_law_1721 ?_
  refine lv_topi (nm_r (e' := xs (nI ii + 1).toNatClampNeg) rfl ?_)
  have hP := pm_Pp List.perm_append_comm hP
  have hD := pm_Dp List.perm_append_comm hD
  refine lc_i (X := M) (Rr := W1) (va_runV (As := [.int (xs (nI ii + 1).toNatClampNeg)]) (rest := []) ⟨hx, hb, hml, hown, hts⟩ (cm_X12_best l g cI cJ cB cZ cL kA vA y M H.size hM (xs (nI ii + 1).toNatClampNeg)) (cwV 1 hts (goodIn_app (g_4 (List.mem_cons_of_mem _ (List.mem_append_left _ (List.mem_of_getElem? (i := 257) rfl))) (List.mem_cons_of_mem _ (List.mem_append_left _ (List.mem_of_getElem? (i := 258) rfl))) (List.mem_cons_of_mem _ (List.mem_append_left _ (List.mem_of_getElem? (i := 259) rfl))) (List.mem_cons_of_mem _ (List.mem_append_left _ (List.mem_of_getElem? (i := 7) rfl))) (by decide +kernel)) (goodIn_sub ml_v_X12_best good_v_X12_best)) rfl rfl rfl (by decide +kernel) ⟨Nat.le_of_ble_eq_true rfl, Nat.le_of_ble_eq_true rfl⟩) (lc_pre (ci := 11) (q := (RX12, TX12, 56)) hK hE hS hA hP hD rfl (mt_mem hM)) rfl rfl hl.1 rfl (lv_room (Nat.le_of_ble_eq_true rfl)) dL_law_1722 ⟨(by show (1000 + 2 * ii) + 0 + 0 ≤ 600000; omega), (by show (100000 + 25 * ii) + 0 + 0 ≤ 7302250; omega)⟩) hS hA hP hD (fun r1722 W2 H locs hz1722 hP hD hS => ?_)
  obtain ⟨hr1722, hW2⟩ := hz1722
  have hP := pm_Pp List.perm_append_comm hP
  have hD := pm_Dp List.perm_append_comm hD
  refine lv_pop hx hb dL_law_1725 rfl ?_
  refine lv_goto (tgt := 2459) hx hb dL_law_1726 (by decide) ?_
  refine W.widen (k := 1009 + 2 * ii) (n := 100145 + 25 * ii) (by omega) (by omega) ?_
  exact hend _ _ _ W1 W2 _ _ _ _ _ _ hW1 hW2 hJ hP hD hS hl
set_option maxHeartbeats 4000000 in
set_option maxRecDepth 100000 in
theorem lw_c43 {p : Program} {e : Env} {s : State} {m : MethodId} {below : List Frame} {meth : Method} {c : Code} (l : Launch) {sb L : Nat} {xs : Nat → Int32} (hL : L ≤ 3072) (C0 : lw_At p s m meth c sb L xs) {g : va_G} {cI cJ cB cZ cL : ClassId} (hK : va_K g vwCl (tyT cI cJ cB cZ cL) s) {kA vA : Nat → Nat} (hE : ENV kA vA (fun q : Nat => s.heap.size ≤ q) s) {x y : Nat} {ii : Nat} (h6 : ii + 6 ≤ L) (hend : ∀ (H : Heap) (locs : List Loc) (ls : Array Slot) (XT M : va_W) (sw sn ki mw mn kp : Nat → Int32) (hXT : XTSt cI cJ cB cZ cL x sw sn ki XT) (hM : MSt cI cJ cB cZ cL y mw mn kp M) (hJ : JJ sw sn ki mw mn kp) (hP : va_P g vwCl (XT ++ M) H) (hD : va_D (fun q : Nat => s.heap.size ≤ q) (XT ++ M)) (hS : va_S (fun q : Nat => s.heap.size ≤ q) s.heap H locs) (hl : lv_has ls 4 [(0, .ref sb), (1, .ref x), (2, .ref y), (3, .int (nI ii))]), W p l e room_1 s m #[Value.ref sb] below meth c H locs (1009 + 2 * ii) (100145 + 25 * ii) (lw_Z below #[Value.ref sb] s) (F0 m 2459 ls [])) (H : Heap) (locs : List Loc) (ls : Array Slot) (XT M : va_W) (sw sn ki mw mn kp : Nat → Int32) (hXT : XTSt cI cJ cB cZ cL x sw sn ki XT) (hM : MSt cI cJ cB cZ cL y mw mn kp M) (hJ : JJ sw sn ki mw mn kp) (hP : va_P g vwCl (XT ++ M) H) (hD : va_D (fun q : Nat => s.heap.size ≤ q) (XT ++ M)) (hS : va_S (fun q : Nat => s.heap.size ≤ q) s.heap H locs) (hl : lv_has ls 4 [(0, .ref sb), (1, .ref x), (2, .ref y), (3, .int (nI ii))]) : W p l e room_1 s m #[Value.ref sb] below meth c H locs (1000 + 2 * ii) (100000 + 25 * ii) (lw_Z below #[Value.ref sb] s) (F0 m 1729 ls []) := by
  obtain ⟨hx, hb, hr, hml, hown, hts0, hX, hbl, hlocks, hgv⟩ := id C0
  have hts : ∀ w ∈ v_L_law, w.before #[Value.ref sb] s = true := fun w h => hts0 w (in_v_L_law w h)
  have hown : s.vm.findClass RL = some m.cls := hown
  have hA : ∀ q : Nat, s.heap.size ≤ q → (fun q : Nat => s.heap.size ≤ q) q := fun _ h => h
  have hbA : ¬ (fun q : Nat => s.heap.size ≤ q) sb := Nat.not_le.mpr hbl
  refine lv_aload_n hx hb dL_law_1729 rfl (lv_at hl 1 rfl) ?_
  refine lv_aload_n hx hb dL_law_1730 rfl (lv_at hl 0 rfl) ?_
  refine lv_iload_n hx hb dL_law_1731 rfl (lv_at hl 3 rfl) ?_
  refine lv_iconst (v := 1) hx hb dL_law_1732 (by decide) ?_
  refine lv_iadd hx hb dL_law_1733 ?_
  refine va_sld hx hb hX hbl hbA hS (lw_ix 1 h6 hL (by decide)) dL_law_1734 ?_
  refine lv_topi (nm_r (e' := xs (nI ii + 1).toNatClampNeg) rfl ?_)
  refine lc_i (X := XT) (Rr := M) (va_runV (As := [.int (xs (nI ii + 1).toNatClampNeg)]) (rest := []) ⟨hx, hb, hml, hown, hts⟩ (lift_i (fun im X hX => cx_X11_bestCost l g cI cJ cB cZ cL kA vA x im X H.size hX (xs (nI ii + 1).toNatClampNeg)) hXT) (cwV 1 hts (goodIn_app (g_4 (List.mem_cons_of_mem _ (List.mem_append_left _ (List.mem_of_getElem? (i := 260) rfl))) (List.mem_cons_of_mem _ (List.mem_append_left _ (List.mem_of_getElem? (i := 261) rfl))) (List.mem_cons_of_mem _ (List.mem_append_left _ (List.mem_of_getElem? (i := 262) rfl))) (List.mem_cons_of_mem _ (List.mem_append_left _ (List.mem_of_getElem? (i := 3) rfl))) (by decide +kernel)) (goodIn_sub ml_v_X11_bestCost good_v_X11_bestCost)) rfl rfl rfl (by decide +kernel) ⟨Nat.le_of_ble_eq_true rfl, Nat.le_of_ble_eq_true rfl⟩) (lc_pre (ci := 10) (q := (RX11, TX11, 11)) hK hE hS hA hP hD rfl (xt_mem hXT)) rfl rfl hl.1 rfl (lv_room (Nat.le_of_ble_eq_true rfl)) dL_law_1735 ⟨(by show (1000 + 2 * ii) + 0 ≤ 600000; omega), (by show (100000 + 25 * ii) + 0 ≤ 7302250; omega)⟩) hS hA hP hD (fun r1735 W1 H locs hz1735 hP hD hS => ?_)
  obtain ⟨hr1735, hW1⟩ := hz1735
  refine lv_pop hx hb dL_law_1738 rfl ?_
  refine lv_aload_n hx hb dL_law_1739 rfl (lv_at hl 2 rfl) ?_
  refine lv_aload_n hx hb dL_law_1740 rfl (lv_at hl 0 rfl) ?_
  refine lv_iload_n hx hb dL_law_1741 rfl (lv_at hl 3 rfl) ?_
  refine lv_iconst (v := 1) hx hb dL_law_1742 (by decide) ?_
  refine lv_iadd hx hb dL_law_1743 ?_
  refine va_sld hx hb hX hbl hbA hS (lw_ix 1 h6 hL (by decide)) dL_law_1744 ?_
  refine lv_topi (nm_r (e' := xs (nI ii + 1).toNatClampNeg) rfl ?_)
  have hP := pm_Pp List.perm_append_comm hP
  have hD := pm_Dp List.perm_append_comm hD
  refine lc_i (X := M) (Rr := W1) (va_runV (As := [.int (xs (nI ii + 1).toNatClampNeg)]) (rest := []) ⟨hx, hb, hml, hown, hts⟩ (cm_X12_bestCost l g cI cJ cB cZ cL kA vA y M H.size hM (xs (nI ii + 1).toNatClampNeg)) (cwV 1 hts (goodIn_app (g_4 (List.mem_cons_of_mem _ (List.mem_append_left _ (List.mem_of_getElem? (i := 263) rfl))) (List.mem_cons_of_mem _ (List.mem_append_left _ (List.mem_of_getElem? (i := 264) rfl))) (List.mem_cons_of_mem _ (List.mem_append_left _ (List.mem_of_getElem? (i := 265) rfl))) (List.mem_cons_of_mem _ (List.mem_append_left _ (List.mem_of_getElem? (i := 7) rfl))) (by decide +kernel)) (goodIn_sub ml_v_X12_bestCost good_v_X12_bestCost)) rfl rfl rfl (by decide +kernel) ⟨Nat.le_of_ble_eq_true rfl, Nat.le_of_ble_eq_true rfl⟩) (lc_pre (ci := 11) (q := (RX12, TX12, 56)) hK hE hS hA hP hD rfl (mt_mem hM)) rfl rfl hl.1 rfl (lv_room (Nat.le_of_ble_eq_true rfl)) dL_law_1745 ⟨(by show (1000 + 2 * ii) + 0 + 0 ≤ 600000; omega), (by show (100000 + 25 * ii) + 0 + 0 ≤ 7302250; omega)⟩) hS hA hP hD (fun r1745 W2 H locs hz1745 hP hD hS => ?_)
  obtain ⟨hr1745, hW2⟩ := hz1745
  have hP := pm_Pp List.perm_append_comm hP
  have hD := pm_Dp List.perm_append_comm hD
  refine lv_pop hx hb dL_law_1748 rfl ?_
  refine lv_goto (tgt := 2459) hx hb dL_law_1749 (by decide) ?_
  refine W.widen (k := 1009 + 2 * ii) (n := 100145 + 25 * ii) (by omega) (by omega) ?_
  exact hend _ _ _ W1 W2 _ _ _ _ _ _ hW1 hW2 hJ hP hD hS hl
set_option maxHeartbeats 4000000 in
set_option maxRecDepth 100000 in
theorem lw_c44 {p : Program} {e : Env} {s : State} {m : MethodId} {below : List Frame} {meth : Method} {c : Code} (l : Launch) {sb L : Nat} {xs : Nat → Int32} (hL : L ≤ 3072) (C0 : lw_At p s m meth c sb L xs) {g : va_G} {cI cJ cB cZ cL : ClassId} (hK : va_K g vwCl (tyT cI cJ cB cZ cL) s) {kA vA : Nat → Nat} (hE : ENV kA vA (fun q : Nat => s.heap.size ≤ q) s) {x y : Nat} {ii : Nat} (h6 : ii + 6 ≤ L) (hend : ∀ (H : Heap) (locs : List Loc) (ls : Array Slot) (XT M : va_W) (sw sn ki mw mn kp : Nat → Int32) (hXT : XTSt cI cJ cB cZ cL x sw sn ki XT) (hM : MSt cI cJ cB cZ cL y mw mn kp M) (hJ : JJ sw sn ki mw mn kp) (hP : va_P g vwCl (XT ++ M) H) (hD : va_D (fun q : Nat => s.heap.size ≤ q) (XT ++ M)) (hS : va_S (fun q : Nat => s.heap.size ≤ q) s.heap H locs) (hl : lv_has ls 4 [(0, .ref sb), (1, .ref x), (2, .ref y), (3, .int (nI ii))]), W p l e room_1 s m #[Value.ref sb] below meth c H locs (1009 + 2 * ii) (100145 + 25 * ii) (lw_Z below #[Value.ref sb] s) (F0 m 2459 ls [])) (H : Heap) (locs : List Loc) (ls : Array Slot) (XT M : va_W) (sw sn ki mw mn kp : Nat → Int32) (hXT : XTSt cI cJ cB cZ cL x sw sn ki XT) (hM : MSt cI cJ cB cZ cL y mw mn kp M) (hJ : JJ sw sn ki mw mn kp) (hP : va_P g vwCl (XT ++ M) H) (hD : va_D (fun q : Nat => s.heap.size ≤ q) (XT ++ M)) (hS : va_S (fun q : Nat => s.heap.size ≤ q) s.heap H locs) (hl : lv_has ls 4 [(0, .ref sb), (1, .ref x), (2, .ref y), (3, .int (nI ii))]) : W p l e room_1 s m #[Value.ref sb] below meth c H locs (1000 + 2 * ii) (100000 + 25 * ii) (lw_Z below #[Value.ref sb] s) (F0 m 1752 ls []) := by
  obtain ⟨hx, hb, hr, hml, hown, hts0, hX, hbl, hlocks, hgv⟩ := id C0
  have hts : ∀ w ∈ v_L_law, w.before #[Value.ref sb] s = true := fun w h => hts0 w (in_v_L_law w h)
  have hown : s.vm.findClass RL = some m.cls := hown
  have hA : ∀ q : Nat, s.heap.size ≤ q → (fun q : Nat => s.heap.size ≤ q) q := fun _ h => h
  have hbA : ¬ (fun q : Nat => s.heap.size ≤ q) sb := Nat.not_le.mpr hbl
  refine lv_aload_n hx hb dL_law_1752 rfl (lv_at hl 1 rfl) ?_
  refine lv_aload_n hx hb dL_law_1753 rfl (lv_at hl 0 rfl) ?_
  refine lv_iload_n hx hb dL_law_1754 rfl (lv_at hl 3 rfl) ?_
  refine lv_iconst (v := 1) hx hb dL_law_1755 (by decide) ?_
  refine lv_iadd hx hb dL_law_1756 ?_
  refine va_sld hx hb hX hbl hbA hS (lw_ix 1 h6 hL (by decide)) dL_law_1757 ?_
  refine lv_topi (nm_r (e' := xs (nI ii + 1).toNatClampNeg) rfl ?_)
  refine lc_i (X := XT) (Rr := M) (va_runV (As := [.int (xs (nI ii + 1).toNatClampNeg)]) (rest := []) ⟨hx, hb, hml, hown, hts⟩ (lift_i (fun im X hX => cx_X11_family l g cI cJ cB cZ cL kA vA x im X H.size hX (xs (nI ii + 1).toNatClampNeg)) hXT) (cwV 1 hts (goodIn_app (g_4 (List.mem_cons_of_mem _ (List.mem_append_left _ (List.mem_of_getElem? (i := 266) rfl))) (List.mem_cons_of_mem _ (List.mem_append_left _ (List.mem_of_getElem? (i := 267) rfl))) (List.mem_cons_of_mem _ (List.mem_append_left _ (List.mem_of_getElem? (i := 268) rfl))) (List.mem_cons_of_mem _ (List.mem_append_left _ (List.mem_of_getElem? (i := 3) rfl))) (by decide +kernel)) (goodIn_sub ml_v_X11_family good_v_X11_family)) rfl rfl rfl (by decide +kernel) ⟨Nat.le_of_ble_eq_true rfl, Nat.le_of_ble_eq_true rfl⟩) (lc_pre (ci := 10) (q := (RX11, TX11, 11)) hK hE hS hA hP hD rfl (xt_mem hXT)) rfl rfl hl.1 rfl (lv_room (Nat.le_of_ble_eq_true rfl)) dL_law_1758 ⟨(by show (1000 + 2 * ii) + 0 ≤ 600000; omega), (by show (100000 + 25 * ii) + 0 ≤ 7302250; omega)⟩) hS hA hP hD (fun r1758 W1 H locs hz1758 hP hD hS => ?_)
  obtain ⟨hr1758, hW1⟩ := hz1758
  refine lv_pop hx hb dL_law_1761 rfl ?_
  refine lv_aload_n hx hb dL_law_1762 rfl (lv_at hl 2 rfl) ?_
  refine lv_aload_n hx hb dL_law_1763 rfl (lv_at hl 0 rfl) ?_
  refine lv_iload_n hx hb dL_law_1764 rfl (lv_at hl 3 rfl) ?_
  refine lv_iconst (v := 1) hx hb dL_law_1765 (by decide) ?_
  refine lv_iadd hx hb dL_law_1766 ?_
  refine va_sld hx hb hX hbl hbA hS (lw_ix 1 h6 hL (by decide)) dL_law_1767 ?_
  refine lv_topi (nm_r (e' := xs (nI ii + 1).toNatClampNeg) rfl ?_)
  have hP := pm_Pp List.perm_append_comm hP
  have hD := pm_Dp List.perm_append_comm hD
  refine lc_i (X := M) (Rr := W1) (va_runV (As := [.int (xs (nI ii + 1).toNatClampNeg)]) (rest := []) ⟨hx, hb, hml, hown, hts⟩ (cm_X12_family l g cI cJ cB cZ cL kA vA y M H.size hM (xs (nI ii + 1).toNatClampNeg)) (cwV 1 hts (goodIn_app (g_4 (List.mem_cons_of_mem _ (List.mem_append_left _ (List.mem_of_getElem? (i := 269) rfl))) (List.mem_cons_of_mem _ (List.mem_append_left _ (List.mem_of_getElem? (i := 270) rfl))) (List.mem_cons_of_mem _ (List.mem_append_left _ (List.mem_of_getElem? (i := 271) rfl))) (List.mem_cons_of_mem _ (List.mem_append_left _ (List.mem_of_getElem? (i := 7) rfl))) (by decide +kernel)) (goodIn_sub ml_v_X12_family good_v_X12_family)) rfl rfl rfl (by decide +kernel) ⟨Nat.le_of_ble_eq_true rfl, Nat.le_of_ble_eq_true rfl⟩) (lc_pre (ci := 11) (q := (RX12, TX12, 56)) hK hE hS hA hP hD rfl (mt_mem hM)) rfl rfl hl.1 rfl (lv_room (Nat.le_of_ble_eq_true rfl)) dL_law_1768 ⟨(by show (1000 + 2 * ii) + 0 + 0 ≤ 600000; omega), (by show (100000 + 25 * ii) + 0 + 0 ≤ 7302250; omega)⟩) hS hA hP hD (fun r1768 W2 H locs hz1768 hP hD hS => ?_)
  obtain ⟨hr1768, hW2⟩ := hz1768
  have hP := pm_Pp List.perm_append_comm hP
  have hD := pm_Dp List.perm_append_comm hD
  refine lv_pop hx hb dL_law_1771 rfl ?_
  refine lv_goto (tgt := 2459) hx hb dL_law_1772 (by decide) ?_
  refine W.widen (k := 1009 + 2 * ii) (n := 100145 + 25 * ii) (by omega) (by omega) ?_
  exact hend _ _ _ W1 W2 _ _ _ _ _ _ hW1 hW2 hJ hP hD hS hl
set_option maxHeartbeats 4000000 in
set_option maxRecDepth 100000 in
theorem lw_c45 {p : Program} {e : Env} {s : State} {m : MethodId} {below : List Frame} {meth : Method} {c : Code} (l : Launch) {sb L : Nat} {xs : Nat → Int32} (hL : L ≤ 3072) (C0 : lw_At p s m meth c sb L xs) {g : va_G} {cI cJ cB cZ cL : ClassId} (hK : va_K g vwCl (tyT cI cJ cB cZ cL) s) {kA vA : Nat → Nat} (hE : ENV kA vA (fun q : Nat => s.heap.size ≤ q) s) {x y : Nat} {ii : Nat} (h6 : ii + 6 ≤ L) (hend : ∀ (H : Heap) (locs : List Loc) (ls : Array Slot) (XT M : va_W) (sw sn ki mw mn kp : Nat → Int32) (hXT : XTSt cI cJ cB cZ cL x sw sn ki XT) (hM : MSt cI cJ cB cZ cL y mw mn kp M) (hJ : JJ sw sn ki mw mn kp) (hP : va_P g vwCl (XT ++ M) H) (hD : va_D (fun q : Nat => s.heap.size ≤ q) (XT ++ M)) (hS : va_S (fun q : Nat => s.heap.size ≤ q) s.heap H locs) (hl : lv_has ls 4 [(0, .ref sb), (1, .ref x), (2, .ref y), (3, .int (nI ii))]), W p l e room_1 s m #[Value.ref sb] below meth c H locs (1009 + 2 * ii) (100145 + 25 * ii) (lw_Z below #[Value.ref sb] s) (F0 m 2459 ls [])) (H : Heap) (locs : List Loc) (ls : Array Slot) (XT M : va_W) (sw sn ki mw mn kp : Nat → Int32) (hXT : XTSt cI cJ cB cZ cL x sw sn ki XT) (hM : MSt cI cJ cB cZ cL y mw mn kp M) (hJ : JJ sw sn ki mw mn kp) (hP : va_P g vwCl (XT ++ M) H) (hD : va_D (fun q : Nat => s.heap.size ≤ q) (XT ++ M)) (hS : va_S (fun q : Nat => s.heap.size ≤ q) s.heap H locs) (hl : lv_has ls 4 [(0, .ref sb), (1, .ref x), (2, .ref y), (3, .int (nI ii))]) : W p l e room_1 s m #[Value.ref sb] below meth c H locs (1000 + 2 * ii) (100000 + 25 * ii) (lw_Z below #[Value.ref sb] s) (F0 m 1775 ls []) := by
  obtain ⟨hx, hb, hr, hml, hown, hts0, hX, hbl, hlocks, hgv⟩ := id C0
  have hts : ∀ w ∈ v_L_law, w.before #[Value.ref sb] s = true := fun w h => hts0 w (in_v_L_law w h)
  have hown : s.vm.findClass RL = some m.cls := hown
  have hA : ∀ q : Nat, s.heap.size ≤ q → (fun q : Nat => s.heap.size ≤ q) q := fun _ h => h
  have hbA : ¬ (fun q : Nat => s.heap.size ≤ q) sb := Nat.not_le.mpr hbl
  refine lv_aload_n hx hb dL_law_1775 rfl (lv_at hl 1 rfl) ?_
  refine lv_aload_n hx hb dL_law_1776 rfl (lv_at hl 0 rfl) ?_
  refine lv_iload_n hx hb dL_law_1777 rfl (lv_at hl 3 rfl) ?_
  refine lv_iconst (v := 1) hx hb dL_law_1778 (by decide) ?_
  refine lv_iadd hx hb dL_law_1779 ?_
  refine va_sld hx hb hX hbl hbA hS (lw_ix 1 h6 hL (by decide)) dL_law_1780 ?_
  refine lv_topi (nm_r (e' := xs (nI ii + 1).toNatClampNeg) rfl ?_)
  refine lc_i (X := XT) (Rr := M) (va_runV (As := [.int (xs (nI ii + 1).toNatClampNeg)]) (rest := []) ⟨hx, hb, hml, hown, hts⟩ (lift_i (fun im X hX => cx_X11_together l g cI cJ cB cZ cL kA vA x im X H.size hX (xs (nI ii + 1).toNatClampNeg)) hXT) (cwV 1 hts (goodIn_app (g_4 (List.mem_cons_of_mem _ (List.mem_append_left _ (List.mem_of_getElem? (i := 272) rfl))) (List.mem_cons_of_mem _ (List.mem_append_left _ (List.mem_of_getElem? (i := 273) rfl))) (List.mem_cons_of_mem _ (List.mem_append_left _ (List.mem_of_getElem? (i := 274) rfl))) (List.mem_cons_of_mem _ (List.mem_append_left _ (List.mem_of_getElem? (i := 3) rfl))) (by decide +kernel)) (goodIn_sub ml_v_X11_together good_v_X11_together)) rfl rfl rfl (by decide +kernel) ⟨Nat.le_of_ble_eq_true rfl, Nat.le_of_ble_eq_true rfl⟩) (lc_pre (ci := 10) (q := (RX11, TX11, 11)) hK hE hS hA hP hD rfl (xt_mem hXT)) rfl rfl hl.1 rfl (lv_room (Nat.le_of_ble_eq_true rfl)) dL_law_1781 ⟨(by show (1000 + 2 * ii) + 0 ≤ 600000; omega), (by show (100000 + 25 * ii) + 0 ≤ 7302250; omega)⟩) hS hA hP hD (fun r1781 W1 H locs hz1781 hP hD hS => ?_)
  obtain ⟨hr1781, hW1⟩ := hz1781
  refine lv_pop hx hb dL_law_1784 rfl ?_
  refine lv_aload_n hx hb dL_law_1785 rfl (lv_at hl 2 rfl) ?_
  refine lv_aload_n hx hb dL_law_1786 rfl (lv_at hl 0 rfl) ?_
  refine lv_iload_n hx hb dL_law_1787 rfl (lv_at hl 3 rfl) ?_
  refine lv_iconst (v := 1) hx hb dL_law_1788 (by decide) ?_
  refine lv_iadd hx hb dL_law_1789 ?_
  refine va_sld hx hb hX hbl hbA hS (lw_ix 1 h6 hL (by decide)) dL_law_1790 ?_
  refine lv_topi (nm_r (e' := xs (nI ii + 1).toNatClampNeg) rfl ?_)
  have hP := pm_Pp List.perm_append_comm hP
  have hD := pm_Dp List.perm_append_comm hD
  refine lc_i (X := M) (Rr := W1) (va_runV (As := [.int (xs (nI ii + 1).toNatClampNeg)]) (rest := []) ⟨hx, hb, hml, hown, hts⟩ (cm_X12_together l g cI cJ cB cZ cL kA vA y M H.size hM (xs (nI ii + 1).toNatClampNeg)) (cwV 1 hts (goodIn_app (g_4 (List.mem_cons_of_mem _ (List.mem_append_left _ (List.mem_of_getElem? (i := 275) rfl))) (List.mem_cons_of_mem _ (List.mem_append_left _ (List.mem_of_getElem? (i := 276) rfl))) (List.mem_cons_of_mem _ (List.mem_append_left _ (List.mem_of_getElem? (i := 277) rfl))) (List.mem_cons_of_mem _ (List.mem_append_left _ (List.mem_of_getElem? (i := 7) rfl))) (by decide +kernel)) (goodIn_sub ml_v_X12_together good_v_X12_together)) rfl rfl rfl (by decide +kernel) ⟨Nat.le_of_ble_eq_true rfl, Nat.le_of_ble_eq_true rfl⟩) (lc_pre (ci := 11) (q := (RX12, TX12, 56)) hK hE hS hA hP hD rfl (mt_mem hM)) rfl rfl hl.1 rfl (lv_room (Nat.le_of_ble_eq_true rfl)) dL_law_1791 ⟨(by show (1000 + 2 * ii) + 0 + 0 ≤ 600000; omega), (by show (100000 + 25 * ii) + 0 + 0 ≤ 7302250; omega)⟩) hS hA hP hD (fun r1791 W2 H locs hz1791 hP hD hS => ?_)
  obtain ⟨hr1791, hW2⟩ := hz1791
  have hP := pm_Pp List.perm_append_comm hP
  have hD := pm_Dp List.perm_append_comm hD
  refine lv_pop hx hb dL_law_1794 rfl ?_
  refine lv_goto (tgt := 2459) hx hb dL_law_1795 (by decide) ?_
  refine W.widen (k := 1009 + 2 * ii) (n := 100145 + 25 * ii) (by omega) (by omega) ?_
  exact hend _ _ _ W1 W2 _ _ _ _ _ _ hW1 hW2 hJ hP hD hS hl
set_option maxHeartbeats 4000000 in
set_option maxRecDepth 100000 in
theorem lw_c46 {p : Program} {e : Env} {s : State} {m : MethodId} {below : List Frame} {meth : Method} {c : Code} (l : Launch) {sb L : Nat} {xs : Nat → Int32} (hL : L ≤ 3072) (C0 : lw_At p s m meth c sb L xs) {g : va_G} {cI cJ cB cZ cL : ClassId} (hK : va_K g vwCl (tyT cI cJ cB cZ cL) s) {kA vA : Nat → Nat} (hE : ENV kA vA (fun q : Nat => s.heap.size ≤ q) s) {x y : Nat} {ii : Nat} (h6 : ii + 6 ≤ L) (hend : ∀ (H : Heap) (locs : List Loc) (ls : Array Slot) (XT M : va_W) (sw sn ki mw mn kp : Nat → Int32) (hXT : XTSt cI cJ cB cZ cL x sw sn ki XT) (hM : MSt cI cJ cB cZ cL y mw mn kp M) (hJ : JJ sw sn ki mw mn kp) (hP : va_P g vwCl (XT ++ M) H) (hD : va_D (fun q : Nat => s.heap.size ≤ q) (XT ++ M)) (hS : va_S (fun q : Nat => s.heap.size ≤ q) s.heap H locs) (hl : lv_has ls 4 [(0, .ref sb), (1, .ref x), (2, .ref y), (3, .int (nI ii))]), W p l e room_1 s m #[Value.ref sb] below meth c H locs (1009 + 2 * ii) (100145 + 25 * ii) (lw_Z below #[Value.ref sb] s) (F0 m 2459 ls [])) (H : Heap) (locs : List Loc) (ls : Array Slot) (XT M : va_W) (sw sn ki mw mn kp : Nat → Int32) (hXT : XTSt cI cJ cB cZ cL x sw sn ki XT) (hM : MSt cI cJ cB cZ cL y mw mn kp M) (hJ : JJ sw sn ki mw mn kp) (hP : va_P g vwCl (XT ++ M) H) (hD : va_D (fun q : Nat => s.heap.size ≤ q) (XT ++ M)) (hS : va_S (fun q : Nat => s.heap.size ≤ q) s.heap H locs) (hl : lv_has ls 4 [(0, .ref sb), (1, .ref x), (2, .ref y), (3, .int (nI ii))]) : W p l e room_1 s m #[Value.ref sb] below meth c H locs (1000 + 2 * ii) (100000 + 25 * ii) (lw_Z below #[Value.ref sb] s) (F0 m 1798 ls []) := by
  obtain ⟨hx, hb, hr, hml, hown, hts0, hX, hbl, hlocks, hgv⟩ := id C0
  have hts : ∀ w ∈ v_L_law, w.before #[Value.ref sb] s = true := fun w h => hts0 w (in_v_L_law w h)
  have hown : s.vm.findClass RL = some m.cls := hown
  have hA : ∀ q : Nat, s.heap.size ≤ q → (fun q : Nat => s.heap.size ≤ q) q := fun _ h => h
  have hbA : ¬ (fun q : Nat => s.heap.size ≤ q) sb := Nat.not_le.mpr hbl
  refine lv_aload_n hx hb dL_law_1798 rfl (lv_at hl 1 rfl) ?_
  refine lv_aload_n hx hb dL_law_1799 rfl (lv_at hl 0 rfl) ?_
  refine lv_iload_n hx hb dL_law_1800 rfl (lv_at hl 3 rfl) ?_
  refine lv_iconst (v := 1) hx hb dL_law_1801 (by decide) ?_
  refine lv_iadd hx hb dL_law_1802 ?_
  refine va_sld hx hb hX hbl hbA hS (lw_ix 1 h6 hL (by decide)) dL_law_1803 ?_
  refine lv_topi (nm_r (e' := xs (nI ii + 1).toNatClampNeg) rfl ?_)
  refine lv_aload_n hx hb dL_law_1804 rfl (lv_at hl 0 rfl) ?_
  refine lv_iload_n hx hb dL_law_1805 rfl (lv_at hl 3 rfl) ?_
  refine lv_iconst (v := 2) hx hb dL_law_1806 (by decide) ?_
  refine lv_iadd hx hb dL_law_1807 ?_
  refine va_sld hx hb hX hbl hbA hS (lw_ix 2 h6 hL (by decide)) dL_law_1808 ?_
  refine lv_topi (nm_r (e' := xs (nI ii + 2).toNatClampNeg) rfl ?_)
  refine lc_i (X := XT) (Rr := M) (va_runV (As := [.int (xs (nI ii + 1).toNatClampNeg), .int (xs (nI ii + 2).toNatClampNeg)]) (rest := []) ⟨hx, hb, hml, hown, hts⟩ (lift_i (fun im X hX => cx_X11_fits l g cI cJ cB cZ cL kA vA x im X H.size hX (xs (nI ii + 1).toNatClampNeg) (xs (nI ii + 2).toNatClampNeg)) hXT) (cwV 2 hts (goodIn_app (g_4 (List.mem_cons_of_mem _ (List.mem_append_left _ (List.mem_of_getElem? (i := 278) rfl))) (List.mem_cons_of_mem _ (List.mem_append_left _ (List.mem_of_getElem? (i := 279) rfl))) (List.mem_cons_of_mem _ (List.mem_append_left _ (List.mem_of_getElem? (i := 280) rfl))) (List.mem_cons_of_mem _ (List.mem_append_left _ (List.mem_of_getElem? (i := 3) rfl))) (by decide +kernel)) (goodIn_sub ml_v_X11_fits good_v_X11_fits)) rfl rfl rfl (by decide +kernel) ⟨Nat.le_of_ble_eq_true rfl, Nat.le_of_ble_eq_true rfl⟩) (lc_pre (ci := 10) (q := (RX11, TX11, 11)) hK hE hS hA hP hD rfl (xt_mem hXT)) rfl rfl hl.1 rfl (lv_room (Nat.le_of_ble_eq_true rfl)) dL_law_1809 ⟨(by show (1000 + 2 * ii) + 0 ≤ 600000; omega), (by show (100000 + 25 * ii) + 0 ≤ 7302250; omega)⟩) hS hA hP hD (fun r1809 W1 H locs hz1809 hP hD hS => ?_)
  obtain ⟨hr1809, hW1⟩ := hz1809
  refine lv_pop hx hb dL_law_1812 rfl ?_
  refine lv_aload_n hx hb dL_law_1813 rfl (lv_at hl 2 rfl) ?_
  refine lv_aload_n hx hb dL_law_1814 rfl (lv_at hl 0 rfl) ?_
  refine lv_iload_n hx hb dL_law_1815 rfl (lv_at hl 3 rfl) ?_
  refine lv_iconst (v := 1) hx hb dL_law_1816 (by decide) ?_
  refine lv_iadd hx hb dL_law_1817 ?_
  refine va_sld hx hb hX hbl hbA hS (lw_ix 1 h6 hL (by decide)) dL_law_1818 ?_
  refine lv_topi (nm_r (e' := xs (nI ii + 1).toNatClampNeg) rfl ?_)
  refine lv_aload_n hx hb dL_law_1819 rfl (lv_at hl 0 rfl) ?_
  refine lv_iload_n hx hb dL_law_1820 rfl (lv_at hl 3 rfl) ?_
  refine lv_iconst (v := 2) hx hb dL_law_1821 (by decide) ?_
  refine lv_iadd hx hb dL_law_1822 ?_
  refine va_sld hx hb hX hbl hbA hS (lw_ix 2 h6 hL (by decide)) dL_law_1823 ?_
  refine lv_topi (nm_r (e' := xs (nI ii + 2).toNatClampNeg) rfl ?_)
  have hP := pm_Pp List.perm_append_comm hP
  have hD := pm_Dp List.perm_append_comm hD
  refine lc_i (X := M) (Rr := W1) (va_runV (As := [.int (xs (nI ii + 1).toNatClampNeg), .int (xs (nI ii + 2).toNatClampNeg)]) (rest := []) ⟨hx, hb, hml, hown, hts⟩ (cm_X12_fits l g cI cJ cB cZ cL kA vA y M H.size hM (xs (nI ii + 1).toNatClampNeg) (xs (nI ii + 2).toNatClampNeg)) (cwV 2 hts (goodIn_app (g_4 (List.mem_cons_of_mem _ (List.mem_append_left _ (List.mem_of_getElem? (i := 281) rfl))) (List.mem_cons_of_mem _ (List.mem_append_left _ (List.mem_of_getElem? (i := 282) rfl))) (List.mem_cons_of_mem _ (List.mem_append_left _ (List.mem_of_getElem? (i := 283) rfl))) (List.mem_cons_of_mem _ (List.mem_append_left _ (List.mem_of_getElem? (i := 7) rfl))) (by decide +kernel)) (goodIn_sub ml_v_X12_fits good_v_X12_fits)) rfl rfl rfl (by decide +kernel) ⟨Nat.le_of_ble_eq_true rfl, Nat.le_of_ble_eq_true rfl⟩) (lc_pre (ci := 11) (q := (RX12, TX12, 56)) hK hE hS hA hP hD rfl (mt_mem hM)) rfl rfl hl.1 rfl (lv_room (Nat.le_of_ble_eq_true rfl)) dL_law_1824 ⟨(by show (1000 + 2 * ii) + 0 + 0 ≤ 600000; omega), (by show (100000 + 25 * ii) + 0 + 0 ≤ 7302250; omega)⟩) hS hA hP hD (fun r1824 W2 H locs hz1824 hP hD hS => ?_)
  obtain ⟨hr1824, hW2⟩ := hz1824
  have hP := pm_Pp List.perm_append_comm hP
  have hD := pm_Dp List.perm_append_comm hD
  refine lv_pop hx hb dL_law_1827 rfl ?_
  refine lv_goto (tgt := 2459) hx hb dL_law_1828 (by decide) ?_
  refine W.widen (k := 1009 + 2 * ii) (n := 100145 + 25 * ii) (by omega) (by omega) ?_
  exact hend _ _ _ W1 W2 _ _ _ _ _ _ hW1 hW2 hJ hP hD hS hl
set_option maxHeartbeats 4000000 in
set_option maxRecDepth 100000 in
theorem lw_c47 {p : Program} {e : Env} {s : State} {m : MethodId} {below : List Frame} {meth : Method} {c : Code} (l : Launch) {sb L : Nat} {xs : Nat → Int32} (hL : L ≤ 3072) (C0 : lw_At p s m meth c sb L xs) {g : va_G} {cI cJ cB cZ cL : ClassId} (hK : va_K g vwCl (tyT cI cJ cB cZ cL) s) {kA vA : Nat → Nat} (hE : ENV kA vA (fun q : Nat => s.heap.size ≤ q) s) {x y : Nat} {ii : Nat} (h6 : ii + 6 ≤ L) (hend : ∀ (H : Heap) (locs : List Loc) (ls : Array Slot) (XT M : va_W) (sw sn ki mw mn kp : Nat → Int32) (hXT : XTSt cI cJ cB cZ cL x sw sn ki XT) (hM : MSt cI cJ cB cZ cL y mw mn kp M) (hJ : JJ sw sn ki mw mn kp) (hP : va_P g vwCl (XT ++ M) H) (hD : va_D (fun q : Nat => s.heap.size ≤ q) (XT ++ M)) (hS : va_S (fun q : Nat => s.heap.size ≤ q) s.heap H locs) (hl : lv_has ls 4 [(0, .ref sb), (1, .ref x), (2, .ref y), (3, .int (nI ii))]), W p l e room_1 s m #[Value.ref sb] below meth c H locs (1009 + 2 * ii) (100145 + 25 * ii) (lw_Z below #[Value.ref sb] s) (F0 m 2459 ls [])) (H : Heap) (locs : List Loc) (ls : Array Slot) (XT M : va_W) (sw sn ki mw mn kp : Nat → Int32) (hXT : XTSt cI cJ cB cZ cL x sw sn ki XT) (hM : MSt cI cJ cB cZ cL y mw mn kp M) (hJ : JJ sw sn ki mw mn kp) (hP : va_P g vwCl (XT ++ M) H) (hD : va_D (fun q : Nat => s.heap.size ≤ q) (XT ++ M)) (hS : va_S (fun q : Nat => s.heap.size ≤ q) s.heap H locs) (hl : lv_has ls 4 [(0, .ref sb), (1, .ref x), (2, .ref y), (3, .int (nI ii))]) : W p l e room_1 s m #[Value.ref sb] below meth c H locs (1000 + 2 * ii) (100000 + 25 * ii) (lw_Z below #[Value.ref sb] s) (F0 m 1831 ls []) := by
  obtain ⟨hx, hb, hr, hml, hown, hts0, hX, hbl, hlocks, hgv⟩ := id C0
  have hts : ∀ w ∈ v_L_law, w.before #[Value.ref sb] s = true := fun w h => hts0 w (in_v_L_law w h)
  have hown : s.vm.findClass RL = some m.cls := hown
  have hA : ∀ q : Nat, s.heap.size ≤ q → (fun q : Nat => s.heap.size ≤ q) q := fun _ h => h
  have hbA : ¬ (fun q : Nat => s.heap.size ≤ q) sb := Nat.not_le.mpr hbl
  refine lv_aload_n hx hb dL_law_1831 rfl (lv_at hl 1 rfl) ?_
  refine lv_aload_n hx hb dL_law_1832 rfl (lv_at hl 0 rfl) ?_
  refine lv_iload_n hx hb dL_law_1833 rfl (lv_at hl 3 rfl) ?_
  refine lv_iconst (v := 1) hx hb dL_law_1834 (by decide) ?_
  refine lv_iadd hx hb dL_law_1835 ?_
  refine va_sld hx hb hX hbl hbA hS (lw_ix 1 h6 hL (by decide)) dL_law_1836 ?_
  refine lv_topi (nm_r (e' := xs (nI ii + 1).toNatClampNeg) rfl ?_)
  refine lv_aload_n hx hb dL_law_1837 rfl (lv_at hl 0 rfl) ?_
  refine lv_iload_n hx hb dL_law_1838 rfl (lv_at hl 3 rfl) ?_
  refine lv_iconst (v := 2) hx hb dL_law_1839 (by decide) ?_
  refine lv_iadd hx hb dL_law_1840 ?_
  refine va_sld hx hb hX hbl hbA hS (lw_ix 2 h6 hL (by decide)) dL_law_1841 ?_
  refine lv_topi (nm_r (e' := xs (nI ii + 2).toNatClampNeg) rfl ?_)
  refine lv_aload_n hx hb dL_law_1842 rfl (lv_at hl 0 rfl) ?_
  refine lv_iload_n hx hb dL_law_1843 rfl (lv_at hl 3 rfl) ?_
  refine lv_iconst (v := 3) hx hb dL_law_1844 (by decide) ?_
  refine lv_iadd hx hb dL_law_1845 ?_
  refine va_sld hx hb hX hbl hbA hS (lw_ix 3 h6 hL (by decide)) dL_law_1846 ?_
  refine lv_topi (nm_r (e' := xs (nI ii + 3).toNatClampNeg) rfl ?_)
  refine lc_l (X := XT) (Rr := M) (va_runV (As := [.int (xs (nI ii + 1).toNatClampNeg), .int (xs (nI ii + 2).toNatClampNeg), .int (xs (nI ii + 3).toNatClampNeg)]) (rest := []) ⟨hx, hb, hml, hown, hts⟩ (lift_l (fun im X hX => cx_X11_which l g cI cJ cB cZ cL kA vA x im X H.size hX (xs (nI ii + 1).toNatClampNeg) (xs (nI ii + 2).toNatClampNeg) (xs (nI ii + 3).toNatClampNeg)) hXT) (cwV 3 hts (goodIn_app (g_4 (List.mem_cons_of_mem _ (List.mem_append_left _ (List.mem_of_getElem? (i := 284) rfl))) (List.mem_cons_of_mem _ (List.mem_append_left _ (List.mem_of_getElem? (i := 285) rfl))) (List.mem_cons_of_mem _ (List.mem_append_left _ (List.mem_of_getElem? (i := 286) rfl))) (List.mem_cons_of_mem _ (List.mem_append_left _ (List.mem_of_getElem? (i := 3) rfl))) (by decide +kernel)) (goodIn_sub ml_v_X11_which good_v_X11_which)) rfl rfl rfl (by decide +kernel) ⟨Nat.le_of_ble_eq_true rfl, Nat.le_of_ble_eq_true rfl⟩) (lc_pre (ci := 10) (q := (RX11, TX11, 11)) hK hE hS hA hP hD rfl (xt_mem hXT)) rfl rfl hl.1 rfl (lv_room (Nat.le_of_ble_eq_true rfl)) dL_law_1847 ⟨(by show (1000 + 2 * ii) + 0 ≤ 600000; omega), (by show (100000 + 25 * ii) + 0 ≤ 7302250; omega)⟩) hS hA hP hD (fun r1847 W1 H locs hz1847 hP hD hS => ?_)
  obtain ⟨hr1847, hW1⟩ := hz1847
  refine lv_pop2_2 hx hb dL_law_1850 rfl ?_
  refine lv_aload_n hx hb dL_law_1851 rfl (lv_at hl 2 rfl) ?_
  refine lv_aload_n hx hb dL_law_1852 rfl (lv_at hl 0 rfl) ?_
  refine lv_iload_n hx hb dL_law_1853 rfl (lv_at hl 3 rfl) ?_
  refine lv_iconst (v := 1) hx hb dL_law_1854 (by decide) ?_
  refine lv_iadd hx hb dL_law_1855 ?_
  refine va_sld hx hb hX hbl hbA hS (lw_ix 1 h6 hL (by decide)) dL_law_1856 ?_
  refine lv_topi (nm_r (e' := xs (nI ii + 1).toNatClampNeg) rfl ?_)
  refine lv_aload_n hx hb dL_law_1857 rfl (lv_at hl 0 rfl) ?_
  refine lv_iload_n hx hb dL_law_1858 rfl (lv_at hl 3 rfl) ?_
  refine lv_iconst (v := 2) hx hb dL_law_1859 (by decide) ?_
  refine lv_iadd hx hb dL_law_1860 ?_
  refine va_sld hx hb hX hbl hbA hS (lw_ix 2 h6 hL (by decide)) dL_law_1861 ?_
  refine lv_topi (nm_r (e' := xs (nI ii + 2).toNatClampNeg) rfl ?_)
  refine lv_aload_n hx hb dL_law_1862 rfl (lv_at hl 0 rfl) ?_
  refine lv_iload_n hx hb dL_law_1863 rfl (lv_at hl 3 rfl) ?_
  refine lv_iconst (v := 3) hx hb dL_law_1864 (by decide) ?_
  refine lv_iadd hx hb dL_law_1865 ?_
  refine va_sld hx hb hX hbl hbA hS (lw_ix 3 h6 hL (by decide)) dL_law_1866 ?_
  refine lv_topi (nm_r (e' := xs (nI ii + 3).toNatClampNeg) rfl ?_)
  have hP := pm_Pp List.perm_append_comm hP
  have hD := pm_Dp List.perm_append_comm hD
  refine lc_l (X := M) (Rr := W1) (va_runV (As := [.int (xs (nI ii + 1).toNatClampNeg), .int (xs (nI ii + 2).toNatClampNeg), .int (xs (nI ii + 3).toNatClampNeg)]) (rest := []) ⟨hx, hb, hml, hown, hts⟩ (cm_X12_which l g cI cJ cB cZ cL kA vA y M H.size hM (xs (nI ii + 1).toNatClampNeg) (xs (nI ii + 2).toNatClampNeg) (xs (nI ii + 3).toNatClampNeg)) (cwV 3 hts (goodIn_app (g_4 (List.mem_cons_of_mem _ (List.mem_append_left _ (List.mem_of_getElem? (i := 287) rfl))) (List.mem_cons_of_mem _ (List.mem_append_left _ (List.mem_of_getElem? (i := 288) rfl))) (List.mem_cons_of_mem _ (List.mem_append_left _ (List.mem_of_getElem? (i := 289) rfl))) (List.mem_cons_of_mem _ (List.mem_append_left _ (List.mem_of_getElem? (i := 7) rfl))) (by decide +kernel)) (goodIn_sub ml_v_X12_which good_v_X12_which)) rfl rfl rfl (by decide +kernel) ⟨Nat.le_of_ble_eq_true rfl, Nat.le_of_ble_eq_true rfl⟩) (lc_pre (ci := 11) (q := (RX12, TX12, 56)) hK hE hS hA hP hD rfl (mt_mem hM)) rfl rfl hl.1 rfl (lv_room (Nat.le_of_ble_eq_true rfl)) dL_law_1867 ⟨(by show (1000 + 2 * ii) + 0 + 0 ≤ 600000; omega), (by show (100000 + 25 * ii) + 0 + 0 ≤ 7302250; omega)⟩) hS hA hP hD (fun r1867 W2 H locs hz1867 hP hD hS => ?_)
  obtain ⟨hr1867, hW2⟩ := hz1867
  have hP := pm_Pp List.perm_append_comm hP
  have hD := pm_Dp List.perm_append_comm hD
  refine lv_pop2_2 hx hb dL_law_1870 rfl ?_
  refine lv_goto (tgt := 2459) hx hb dL_law_1871 (by decide) ?_
  refine W.widen (k := 1009 + 2 * ii) (n := 100145 + 25 * ii) (by omega) (by omega) ?_
  exact hend _ _ _ W1 W2 _ _ _ _ _ _ hW1 hW2 hJ hP hD hS hl
set_option maxHeartbeats 4000000 in
set_option maxRecDepth 100000 in
theorem lw_c48 {p : Program} {e : Env} {s : State} {m : MethodId} {below : List Frame} {meth : Method} {c : Code} (l : Launch) {sb L : Nat} {xs : Nat → Int32} (hL : L ≤ 3072) (C0 : lw_At p s m meth c sb L xs) {g : va_G} {cI cJ cB cZ cL : ClassId} (hK : va_K g vwCl (tyT cI cJ cB cZ cL) s) {kA vA : Nat → Nat} (hE : ENV kA vA (fun q : Nat => s.heap.size ≤ q) s) {x y : Nat} {ii : Nat} (h6 : ii + 6 ≤ L) (hend : ∀ (H : Heap) (locs : List Loc) (ls : Array Slot) (XT M : va_W) (sw sn ki mw mn kp : Nat → Int32) (hXT : XTSt cI cJ cB cZ cL x sw sn ki XT) (hM : MSt cI cJ cB cZ cL y mw mn kp M) (hJ : JJ sw sn ki mw mn kp) (hP : va_P g vwCl (XT ++ M) H) (hD : va_D (fun q : Nat => s.heap.size ≤ q) (XT ++ M)) (hS : va_S (fun q : Nat => s.heap.size ≤ q) s.heap H locs) (hl : lv_has ls 4 [(0, .ref sb), (1, .ref x), (2, .ref y), (3, .int (nI ii))]), W p l e room_1 s m #[Value.ref sb] below meth c H locs (1009 + 2 * ii) (100145 + 25 * ii) (lw_Z below #[Value.ref sb] s) (F0 m 2459 ls [])) (H : Heap) (locs : List Loc) (ls : Array Slot) (XT M : va_W) (sw sn ki mw mn kp : Nat → Int32) (hXT : XTSt cI cJ cB cZ cL x sw sn ki XT) (hM : MSt cI cJ cB cZ cL y mw mn kp M) (hJ : JJ sw sn ki mw mn kp) (hP : va_P g vwCl (XT ++ M) H) (hD : va_D (fun q : Nat => s.heap.size ≤ q) (XT ++ M)) (hS : va_S (fun q : Nat => s.heap.size ≤ q) s.heap H locs) (hl : lv_has ls 4 [(0, .ref sb), (1, .ref x), (2, .ref y), (3, .int (nI ii))]) : W p l e room_1 s m #[Value.ref sb] below meth c H locs (1000 + 2 * ii) (100000 + 25 * ii) (lw_Z below #[Value.ref sb] s) (F0 m 1874 ls []) := by
  obtain ⟨hx, hb, hr, hml, hown, hts0, hX, hbl, hlocks, hgv⟩ := id C0
  have hts : ∀ w ∈ v_L_law, w.before #[Value.ref sb] s = true := fun w h => hts0 w (in_v_L_law w h)
  have hown : s.vm.findClass RL = some m.cls := hown
  have hA : ∀ q : Nat, s.heap.size ≤ q → (fun q : Nat => s.heap.size ≤ q) q := fun _ h => h
  have hbA : ¬ (fun q : Nat => s.heap.size ≤ q) sb := Nat.not_le.mpr hbl
  refine lv_aload_n hx hb dL_law_1874 rfl (lv_at hl 1 rfl) ?_
  refine lv_aload_n hx hb dL_law_1875 rfl (lv_at hl 0 rfl) ?_
  refine lv_iload_n hx hb dL_law_1876 rfl (lv_at hl 3 rfl) ?_
  refine lv_iconst (v := 1) hx hb dL_law_1877 (by decide) ?_
  refine lv_iadd hx hb dL_law_1878 ?_
  refine va_sld hx hb hX hbl hbA hS (lw_ix 1 h6 hL (by decide)) dL_law_1879 ?_
  refine lv_topi (nm_r (e' := xs (nI ii + 1).toNatClampNeg) rfl ?_)
  refine lv_aload_n hx hb dL_law_1880 rfl (lv_at hl 0 rfl) ?_
  refine lv_iload_n hx hb dL_law_1881 rfl (lv_at hl 3 rfl) ?_
  refine lv_iconst (v := 2) hx hb dL_law_1882 (by decide) ?_
  refine lv_iadd hx hb dL_law_1883 ?_
  refine va_sld hx hb hX hbl hbA hS (lw_ix 2 h6 hL (by decide)) dL_law_1884 ?_
  refine lv_topi (nm_r (e' := xs (nI ii + 2).toNatClampNeg) rfl ?_)
  refine lc_i (X := XT) (Rr := M) (va_runV (As := [.int (xs (nI ii + 1).toNatClampNeg), .int (xs (nI ii + 2).toNatClampNeg)]) (rest := []) ⟨hx, hb, hml, hown, hts⟩ (lift_i (fun im X hX => cx_X11_begun l g cI cJ cB cZ cL kA vA x im X H.size hX (xs (nI ii + 1).toNatClampNeg) (xs (nI ii + 2).toNatClampNeg)) hXT) (cwV 2 hts (goodIn_app (g_4 (List.mem_cons_of_mem _ (List.mem_append_left _ (List.mem_of_getElem? (i := 290) rfl))) (List.mem_cons_of_mem _ (List.mem_append_left _ (List.mem_of_getElem? (i := 291) rfl))) (List.mem_cons_of_mem _ (List.mem_append_left _ (List.mem_of_getElem? (i := 292) rfl))) (List.mem_cons_of_mem _ (List.mem_append_left _ (List.mem_of_getElem? (i := 3) rfl))) (by decide +kernel)) (goodIn_sub ml_v_X11_begun good_v_X11_begun)) rfl rfl rfl (by decide +kernel) ⟨Nat.le_of_ble_eq_true rfl, Nat.le_of_ble_eq_true rfl⟩) (lc_pre (ci := 10) (q := (RX11, TX11, 11)) hK hE hS hA hP hD rfl (xt_mem hXT)) rfl rfl hl.1 rfl (lv_room (Nat.le_of_ble_eq_true rfl)) dL_law_1885 ⟨(by show (1000 + 2 * ii) + 0 ≤ 600000; omega), (by show (100000 + 25 * ii) + 0 ≤ 7302250; omega)⟩) hS hA hP hD (fun r1885 W1 H locs hz1885 hP hD hS => ?_)
  obtain ⟨hr1885, hW1⟩ := hz1885
  refine lv_pop hx hb dL_law_1888 rfl ?_
  refine lv_aload_n hx hb dL_law_1889 rfl (lv_at hl 2 rfl) ?_
  refine lv_aload_n hx hb dL_law_1890 rfl (lv_at hl 0 rfl) ?_
  refine lv_iload_n hx hb dL_law_1891 rfl (lv_at hl 3 rfl) ?_
  refine lv_iconst (v := 1) hx hb dL_law_1892 (by decide) ?_
  refine lv_iadd hx hb dL_law_1893 ?_
  refine va_sld hx hb hX hbl hbA hS (lw_ix 1 h6 hL (by decide)) dL_law_1894 ?_
  refine lv_topi (nm_r (e' := xs (nI ii + 1).toNatClampNeg) rfl ?_)
  refine lv_aload_n hx hb dL_law_1895 rfl (lv_at hl 0 rfl) ?_
  refine lv_iload_n hx hb dL_law_1896 rfl (lv_at hl 3 rfl) ?_
  refine lv_iconst (v := 2) hx hb dL_law_1897 (by decide) ?_
  refine lv_iadd hx hb dL_law_1898 ?_
  refine va_sld hx hb hX hbl hbA hS (lw_ix 2 h6 hL (by decide)) dL_law_1899 ?_
  refine lv_topi (nm_r (e' := xs (nI ii + 2).toNatClampNeg) rfl ?_)
  have hP := pm_Pp List.perm_append_comm hP
  have hD := pm_Dp List.perm_append_comm hD
  refine lc_i (X := M) (Rr := W1) (va_runV (As := [.int (xs (nI ii + 1).toNatClampNeg), .int (xs (nI ii + 2).toNatClampNeg)]) (rest := []) ⟨hx, hb, hml, hown, hts⟩ (cm_X12_begun l g cI cJ cB cZ cL kA vA y M H.size hM (xs (nI ii + 1).toNatClampNeg) (xs (nI ii + 2).toNatClampNeg)) (cwV 2 hts (goodIn_app (g_4 (List.mem_cons_of_mem _ (List.mem_append_left _ (List.mem_of_getElem? (i := 293) rfl))) (List.mem_cons_of_mem _ (List.mem_append_left _ (List.mem_of_getElem? (i := 294) rfl))) (List.mem_cons_of_mem _ (List.mem_append_left _ (List.mem_of_getElem? (i := 295) rfl))) (List.mem_cons_of_mem _ (List.mem_append_left _ (List.mem_of_getElem? (i := 7) rfl))) (by decide +kernel)) (goodIn_sub ml_v_X12_begun good_v_X12_begun)) rfl rfl rfl (by decide +kernel) ⟨Nat.le_of_ble_eq_true rfl, Nat.le_of_ble_eq_true rfl⟩) (lc_pre (ci := 11) (q := (RX12, TX12, 56)) hK hE hS hA hP hD rfl (mt_mem hM)) rfl rfl hl.1 rfl (lv_room (Nat.le_of_ble_eq_true rfl)) dL_law_1900 ⟨(by show (1000 + 2 * ii) + 0 + 0 ≤ 600000; omega), (by show (100000 + 25 * ii) + 0 + 0 ≤ 7302250; omega)⟩) hS hA hP hD (fun r1900 W2 H locs hz1900 hP hD hS => ?_)
  obtain ⟨hr1900, hW2⟩ := hz1900
  have hP := pm_Pp List.perm_append_comm hP
  have hD := pm_Dp List.perm_append_comm hD
  refine lv_pop hx hb dL_law_1903 rfl ?_
  refine lv_goto (tgt := 2459) hx hb dL_law_1904 (by decide) ?_
  refine W.widen (k := 1009 + 2 * ii) (n := 100145 + 25 * ii) (by omega) (by omega) ?_
  exact hend _ _ _ W1 W2 _ _ _ _ _ _ hW1 hW2 hJ hP hD hS hl
set_option maxHeartbeats 4000000 in
set_option maxRecDepth 100000 in
theorem lw_c49 {p : Program} {e : Env} {s : State} {m : MethodId} {below : List Frame} {meth : Method} {c : Code} (l : Launch) {sb L : Nat} {xs : Nat → Int32} (hL : L ≤ 3072) (C0 : lw_At p s m meth c sb L xs) {g : va_G} {cI cJ cB cZ cL : ClassId} (hK : va_K g vwCl (tyT cI cJ cB cZ cL) s) {kA vA : Nat → Nat} (hE : ENV kA vA (fun q : Nat => s.heap.size ≤ q) s) {x y : Nat} {ii : Nat} (h6 : ii + 6 ≤ L) (hend : ∀ (H : Heap) (locs : List Loc) (ls : Array Slot) (XT M : va_W) (sw sn ki mw mn kp : Nat → Int32) (hXT : XTSt cI cJ cB cZ cL x sw sn ki XT) (hM : MSt cI cJ cB cZ cL y mw mn kp M) (hJ : JJ sw sn ki mw mn kp) (hP : va_P g vwCl (XT ++ M) H) (hD : va_D (fun q : Nat => s.heap.size ≤ q) (XT ++ M)) (hS : va_S (fun q : Nat => s.heap.size ≤ q) s.heap H locs) (hl : lv_has ls 4 [(0, .ref sb), (1, .ref x), (2, .ref y), (3, .int (nI ii))]), W p l e room_1 s m #[Value.ref sb] below meth c H locs (1009 + 2 * ii) (100145 + 25 * ii) (lw_Z below #[Value.ref sb] s) (F0 m 2459 ls [])) (H : Heap) (locs : List Loc) (ls : Array Slot) (XT M : va_W) (sw sn ki mw mn kp : Nat → Int32) (hXT : XTSt cI cJ cB cZ cL x sw sn ki XT) (hM : MSt cI cJ cB cZ cL y mw mn kp M) (hJ : JJ sw sn ki mw mn kp) (hP : va_P g vwCl (XT ++ M) H) (hD : va_D (fun q : Nat => s.heap.size ≤ q) (XT ++ M)) (hS : va_S (fun q : Nat => s.heap.size ≤ q) s.heap H locs) (hl : lv_has ls 4 [(0, .ref sb), (1, .ref x), (2, .ref y), (3, .int (nI ii))]) : W p l e room_1 s m #[Value.ref sb] below meth c H locs (1000 + 2 * ii) (100000 + 25 * ii) (lw_Z below #[Value.ref sb] s) (F0 m 1907 ls []) := by
  obtain ⟨hx, hb, hr, hml, hown, hts0, hX, hbl, hlocks, hgv⟩ := id C0
  have hts : ∀ w ∈ v_L_law, w.before #[Value.ref sb] s = true := fun w h => hts0 w (in_v_L_law w h)
  have hown : s.vm.findClass RL = some m.cls := hown
  have hA : ∀ q : Nat, s.heap.size ≤ q → (fun q : Nat => s.heap.size ≤ q) q := fun _ h => h
  have hbA : ¬ (fun q : Nat => s.heap.size ≤ q) sb := Nat.not_le.mpr hbl
  refine lv_aload_n hx hb dL_law_1907 rfl (lv_at hl 1 rfl) ?_
  refine lv_aload_n hx hb dL_law_1908 rfl (lv_at hl 0 rfl) ?_
  refine lv_iload_n hx hb dL_law_1909 rfl (lv_at hl 3 rfl) ?_
  refine lv_iconst (v := 1) hx hb dL_law_1910 (by decide) ?_
  refine lv_iadd hx hb dL_law_1911 ?_
  refine va_sld hx hb hX hbl hbA hS (lw_ix 1 h6 hL (by decide)) dL_law_1912 ?_
  refine lv_topi (nm_r (e' := xs (nI ii + 1).toNatClampNeg) rfl ?_)
  refine lv_aload_n hx hb dL_law_1913 rfl (lv_at hl 0 rfl) ?_
  refine lv_iload_n hx hb dL_law_1914 rfl (lv_at hl 3 rfl) ?_
  refine lv_iconst (v := 2) hx hb dL_law_1915 (by decide) ?_
  refine lv_iadd hx hb dL_law_1916 ?_
  refine va_sld hx hb hX hbl hbA hS (lw_ix 2 h6 hL (by decide)) dL_law_1917 ?_
  refine lv_topi (nm_r (e' := xs (nI ii + 2).toNatClampNeg) rfl ?_)
  refine lc_i (X := XT) (Rr := M) (va_runV (As := [.int (xs (nI ii + 1).toNatClampNeg), .int (xs (nI ii + 2).toNatClampNeg)]) (rest := []) ⟨hx, hb, hml, hown, hts⟩ (lift_i (fun im X hX => cx_X11_odd l g cI cJ cB cZ cL kA vA x im X H.size hX (xs (nI ii + 1).toNatClampNeg) (xs (nI ii + 2).toNatClampNeg)) hXT) (cwV 2 hts (goodIn_app (g_4 (List.mem_cons_of_mem _ (List.mem_append_left _ (List.mem_of_getElem? (i := 296) rfl))) (List.mem_cons_of_mem _ (List.mem_append_left _ (List.mem_of_getElem? (i := 297) rfl))) (List.mem_cons_of_mem _ (List.mem_append_left _ (List.mem_of_getElem? (i := 298) rfl))) (List.mem_cons_of_mem _ (List.mem_append_left _ (List.mem_of_getElem? (i := 3) rfl))) (by decide +kernel)) (goodIn_sub ml_v_X11_odd good_v_X11_odd)) rfl rfl rfl (by decide +kernel) ⟨Nat.le_of_ble_eq_true rfl, Nat.le_of_ble_eq_true rfl⟩) (lc_pre (ci := 10) (q := (RX11, TX11, 11)) hK hE hS hA hP hD rfl (xt_mem hXT)) rfl rfl hl.1 rfl (lv_room (Nat.le_of_ble_eq_true rfl)) dL_law_1918 ⟨(by show (1000 + 2 * ii) + 0 ≤ 600000; omega), (by show (100000 + 25 * ii) + 0 ≤ 7302250; omega)⟩) hS hA hP hD (fun r1918 W1 H locs hz1918 hP hD hS => ?_)
  obtain ⟨hr1918, hW1⟩ := hz1918
  refine lv_pop hx hb dL_law_1921 rfl ?_
  refine lv_aload_n hx hb dL_law_1922 rfl (lv_at hl 2 rfl) ?_
  refine lv_aload_n hx hb dL_law_1923 rfl (lv_at hl 0 rfl) ?_
  refine lv_iload_n hx hb dL_law_1924 rfl (lv_at hl 3 rfl) ?_
  refine lv_iconst (v := 1) hx hb dL_law_1925 (by decide) ?_
  refine lv_iadd hx hb dL_law_1926 ?_
  refine va_sld hx hb hX hbl hbA hS (lw_ix 1 h6 hL (by decide)) dL_law_1927 ?_
  refine lv_topi (nm_r (e' := xs (nI ii + 1).toNatClampNeg) rfl ?_)
  refine lv_aload_n hx hb dL_law_1928 rfl (lv_at hl 0 rfl) ?_
  refine lv_iload_n hx hb dL_law_1929 rfl (lv_at hl 3 rfl) ?_
  refine lv_iconst (v := 2) hx hb dL_law_1930 (by decide) ?_
  refine lv_iadd hx hb dL_law_1931 ?_
  refine va_sld hx hb hX hbl hbA hS (lw_ix 2 h6 hL (by decide)) dL_law_1932 ?_
  refine lv_topi (nm_r (e' := xs (nI ii + 2).toNatClampNeg) rfl ?_)
  have hP := pm_Pp List.perm_append_comm hP
  have hD := pm_Dp List.perm_append_comm hD
  refine lc_i (X := M) (Rr := W1) (va_runV (As := [.int (xs (nI ii + 1).toNatClampNeg), .int (xs (nI ii + 2).toNatClampNeg)]) (rest := []) ⟨hx, hb, hml, hown, hts⟩ (cm_X12_odd l g cI cJ cB cZ cL kA vA y M H.size hM (xs (nI ii + 1).toNatClampNeg) (xs (nI ii + 2).toNatClampNeg)) (cwV 2 hts (goodIn_app (g_4 (List.mem_cons_of_mem _ (List.mem_append_left _ (List.mem_of_getElem? (i := 299) rfl))) (List.mem_cons_of_mem _ (List.mem_append_left _ (List.mem_of_getElem? (i := 300) rfl))) (List.mem_cons_of_mem _ (List.mem_append_left _ (List.mem_of_getElem? (i := 301) rfl))) (List.mem_cons_of_mem _ (List.mem_append_left _ (List.mem_of_getElem? (i := 7) rfl))) (by decide +kernel)) (goodIn_sub ml_v_X12_odd good_v_X12_odd)) rfl rfl rfl (by decide +kernel) ⟨Nat.le_of_ble_eq_true rfl, Nat.le_of_ble_eq_true rfl⟩) (lc_pre (ci := 11) (q := (RX12, TX12, 56)) hK hE hS hA hP hD rfl (mt_mem hM)) rfl rfl hl.1 rfl (lv_room (Nat.le_of_ble_eq_true rfl)) dL_law_1933 ⟨(by show (1000 + 2 * ii) + 0 + 0 ≤ 600000; omega), (by show (100000 + 25 * ii) + 0 + 0 ≤ 7302250; omega)⟩) hS hA hP hD (fun r1933 W2 H locs hz1933 hP hD hS => ?_)
  obtain ⟨hr1933, hW2⟩ := hz1933
  have hP := pm_Pp List.perm_append_comm hP
  have hD := pm_Dp List.perm_append_comm hD
  refine lv_pop hx hb dL_law_1936 rfl ?_
  refine lv_goto (tgt := 2459) hx hb dL_law_1937 (by decide) ?_
  refine W.widen (k := 1009 + 2 * ii) (n := 100145 + 25 * ii) (by omega) (by omega) ?_
  exact hend _ _ _ W1 W2 _ _ _ _ _ _ hW1 hW2 hJ hP hD hS hl
set_option maxHeartbeats 4000000 in
set_option maxRecDepth 100000 in
theorem lw_c50 {p : Program} {e : Env} {s : State} {m : MethodId} {below : List Frame} {meth : Method} {c : Code} (l : Launch) {sb L : Nat} {xs : Nat → Int32} (hL : L ≤ 3072) (C0 : lw_At p s m meth c sb L xs) {g : va_G} {cI cJ cB cZ cL : ClassId} (hK : va_K g vwCl (tyT cI cJ cB cZ cL) s) {kA vA : Nat → Nat} (hE : ENV kA vA (fun q : Nat => s.heap.size ≤ q) s) {x y : Nat} {ii : Nat} (h6 : ii + 6 ≤ L) (hend : ∀ (H : Heap) (locs : List Loc) (ls : Array Slot) (XT M : va_W) (sw sn ki mw mn kp : Nat → Int32) (hXT : XTSt cI cJ cB cZ cL x sw sn ki XT) (hM : MSt cI cJ cB cZ cL y mw mn kp M) (hJ : JJ sw sn ki mw mn kp) (hP : va_P g vwCl (XT ++ M) H) (hD : va_D (fun q : Nat => s.heap.size ≤ q) (XT ++ M)) (hS : va_S (fun q : Nat => s.heap.size ≤ q) s.heap H locs) (hl : lv_has ls 4 [(0, .ref sb), (1, .ref x), (2, .ref y), (3, .int (nI ii))]), W p l e room_1 s m #[Value.ref sb] below meth c H locs (1009 + 2 * ii) (100145 + 25 * ii) (lw_Z below #[Value.ref sb] s) (F0 m 2459 ls [])) (H : Heap) (locs : List Loc) (ls : Array Slot) (XT M : va_W) (sw sn ki mw mn kp : Nat → Int32) (hXT : XTSt cI cJ cB cZ cL x sw sn ki XT) (hM : MSt cI cJ cB cZ cL y mw mn kp M) (hJ : JJ sw sn ki mw mn kp) (hP : va_P g vwCl (XT ++ M) H) (hD : va_D (fun q : Nat => s.heap.size ≤ q) (XT ++ M)) (hS : va_S (fun q : Nat => s.heap.size ≤ q) s.heap H locs) (hl : lv_has ls 4 [(0, .ref sb), (1, .ref x), (2, .ref y), (3, .int (nI ii))]) : W p l e room_1 s m #[Value.ref sb] below meth c H locs (1000 + 2 * ii) (100000 + 25 * ii) (lw_Z below #[Value.ref sb] s) (F0 m 1940 ls []) := by
  obtain ⟨hx, hb, hr, hml, hown, hts0, hX, hbl, hlocks, hgv⟩ := id C0
  have hts : ∀ w ∈ v_L_law, w.before #[Value.ref sb] s = true := fun w h => hts0 w (in_v_L_law w h)
  have hown : s.vm.findClass RL = some m.cls := hown
  have hA : ∀ q : Nat, s.heap.size ≤ q → (fun q : Nat => s.heap.size ≤ q) q := fun _ h => h
  have hbA : ¬ (fun q : Nat => s.heap.size ≤ q) sb := Nat.not_le.mpr hbl
  refine lv_aload_n hx hb dL_law_1940 rfl (lv_at hl 1 rfl) ?_
  refine lv_aload_n hx hb dL_law_1941 rfl (lv_at hl 0 rfl) ?_
  refine lv_iload_n hx hb dL_law_1942 rfl (lv_at hl 3 rfl) ?_
  refine lv_iconst (v := 1) hx hb dL_law_1943 (by decide) ?_
  refine lv_iadd hx hb dL_law_1944 ?_
  refine va_sld hx hb hX hbl hbA hS (lw_ix 1 h6 hL (by decide)) dL_law_1945 ?_
  refine lv_topi (nm_r (e' := xs (nI ii + 1).toNatClampNeg) rfl ?_)
  refine lv_aload_n hx hb dL_law_1946 rfl (lv_at hl 0 rfl) ?_
  refine lv_iload_n hx hb dL_law_1947 rfl (lv_at hl 3 rfl) ?_
  refine lv_iconst (v := 2) hx hb dL_law_1948 (by decide) ?_
  refine lv_iadd hx hb dL_law_1949 ?_
  refine va_sld hx hb hX hbl hbA hS (lw_ix 2 h6 hL (by decide)) dL_law_1950 ?_
  refine lv_topi (nm_r (e' := xs (nI ii + 2).toNatClampNeg) rfl ?_)
  refine lc_i (X := XT) (Rr := M) (va_runV (As := [.int (xs (nI ii + 1).toNatClampNeg), .int (xs (nI ii + 2).toNatClampNeg)]) (rest := []) ⟨hx, hb, hml, hown, hts⟩ (lift_i (fun im X hX => cx_X11_life l g cI cJ cB cZ cL kA vA x im X H.size hX (xs (nI ii + 1).toNatClampNeg) (xs (nI ii + 2).toNatClampNeg)) hXT) (cwV 2 hts (goodIn_app (g_4 (List.mem_cons_of_mem _ (List.mem_append_left _ (List.mem_of_getElem? (i := 302) rfl))) (List.mem_cons_of_mem _ (List.mem_append_left _ (List.mem_of_getElem? (i := 303) rfl))) (List.mem_cons_of_mem _ (List.mem_append_left _ (List.mem_of_getElem? (i := 304) rfl))) (List.mem_cons_of_mem _ (List.mem_append_left _ (List.mem_of_getElem? (i := 3) rfl))) (by decide +kernel)) (goodIn_sub ml_v_X11_life good_v_X11_life)) rfl rfl rfl (by decide +kernel) ⟨Nat.le_of_ble_eq_true rfl, Nat.le_of_ble_eq_true rfl⟩) (lc_pre (ci := 10) (q := (RX11, TX11, 11)) hK hE hS hA hP hD rfl (xt_mem hXT)) rfl rfl hl.1 rfl (lv_room (Nat.le_of_ble_eq_true rfl)) dL_law_1951 ⟨(by show (1000 + 2 * ii) + 0 ≤ 600000; omega), (by show (100000 + 25 * ii) + 0 ≤ 7302250; omega)⟩) hS hA hP hD (fun r1951 W1 H locs hz1951 hP hD hS => ?_)
  obtain ⟨hr1951, hW1⟩ := hz1951
  refine lv_pop hx hb dL_law_1954 rfl ?_
  refine lv_aload_n hx hb dL_law_1955 rfl (lv_at hl 2 rfl) ?_
  refine lv_aload_n hx hb dL_law_1956 rfl (lv_at hl 0 rfl) ?_
  refine lv_iload_n hx hb dL_law_1957 rfl (lv_at hl 3 rfl) ?_
  refine lv_iconst (v := 1) hx hb dL_law_1958 (by decide) ?_
  refine lv_iadd hx hb dL_law_1959 ?_
  refine va_sld hx hb hX hbl hbA hS (lw_ix 1 h6 hL (by decide)) dL_law_1960 ?_
  refine lv_topi (nm_r (e' := xs (nI ii + 1).toNatClampNeg) rfl ?_)
  refine lv_aload_n hx hb dL_law_1961 rfl (lv_at hl 0 rfl) ?_
  refine lv_iload_n hx hb dL_law_1962 rfl (lv_at hl 3 rfl) ?_
  refine lv_iconst (v := 2) hx hb dL_law_1963 (by decide) ?_
  refine lv_iadd hx hb dL_law_1964 ?_
  refine va_sld hx hb hX hbl hbA hS (lw_ix 2 h6 hL (by decide)) dL_law_1965 ?_
  refine lv_topi (nm_r (e' := xs (nI ii + 2).toNatClampNeg) rfl ?_)
  have hP := pm_Pp List.perm_append_comm hP
  have hD := pm_Dp List.perm_append_comm hD
  refine lc_i (X := M) (Rr := W1) (va_runV (As := [.int (xs (nI ii + 1).toNatClampNeg), .int (xs (nI ii + 2).toNatClampNeg)]) (rest := []) ⟨hx, hb, hml, hown, hts⟩ (cm_X12_life l g cI cJ cB cZ cL kA vA y M H.size hM (xs (nI ii + 1).toNatClampNeg) (xs (nI ii + 2).toNatClampNeg)) (cwV 2 hts (goodIn_app (g_4 (List.mem_cons_of_mem _ (List.mem_append_left _ (List.mem_of_getElem? (i := 305) rfl))) (List.mem_cons_of_mem _ (List.mem_append_left _ (List.mem_of_getElem? (i := 306) rfl))) (List.mem_cons_of_mem _ (List.mem_append_left _ (List.mem_of_getElem? (i := 307) rfl))) (List.mem_cons_of_mem _ (List.mem_append_left _ (List.mem_of_getElem? (i := 7) rfl))) (by decide +kernel)) (goodIn_sub ml_v_X12_life good_v_X12_life)) rfl rfl rfl (by decide +kernel) ⟨Nat.le_of_ble_eq_true rfl, Nat.le_of_ble_eq_true rfl⟩) (lc_pre (ci := 11) (q := (RX12, TX12, 56)) hK hE hS hA hP hD rfl (mt_mem hM)) rfl rfl hl.1 rfl (lv_room (Nat.le_of_ble_eq_true rfl)) dL_law_1966 ⟨(by show (1000 + 2 * ii) + 0 + 0 ≤ 600000; omega), (by show (100000 + 25 * ii) + 0 + 0 ≤ 7302250; omega)⟩) hS hA hP hD (fun r1966 W2 H locs hz1966 hP hD hS => ?_)
  obtain ⟨hr1966, hW2⟩ := hz1966
  have hP := pm_Pp List.perm_append_comm hP
  have hD := pm_Dp List.perm_append_comm hD
  refine lv_pop hx hb dL_law_1969 rfl ?_
  refine lv_goto (tgt := 2459) hx hb dL_law_1970 (by decide) ?_
  refine W.widen (k := 1009 + 2 * ii) (n := 100145 + 25 * ii) (by omega) (by omega) ?_
  exact hend _ _ _ W1 W2 _ _ _ _ _ _ hW1 hW2 hJ hP hD hS hl
