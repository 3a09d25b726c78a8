set_option maxHeartbeats 4000000 in
set_option maxRecDepth 100000 in
theorem lw_c51 {p : Program} {e : Env} {s : State} {m : MethodId} {below : List Frame} {meth : Method} {c : Code} (l : Launch) {sb L : Nat} {xs : Nat → Int32} (hL : L ≤ 3072) (C0 : lw_At p s m meth c sb L xs) {g : va_G} {cI cJ cB cZ cL : ClassId} (hK : va_K g vwCl (tyT cI cJ cB cZ cL) s) {kA vA : Nat → Nat} (hE : ENV kA vA (fun q : Nat => s.heap.size ≤ q) s) {x y : Nat} {ii : Nat} (h6 : ii + 6 ≤ L) (hend : ∀ (H : Heap) (locs : List Loc) (ls : Array Slot) (XT M : va_W) (sw sn ki mw mn kp : Nat → Int32) (hXT : XTSt cI cJ cB cZ cL x sw sn ki XT) (hM : MSt cI cJ cB cZ cL y mw mn kp M) (hJ : JJ sw sn ki mw mn kp) (hP : va_P g vwCl (XT ++ M) H) (hD : va_D (fun q : Nat => s.heap.size ≤ q) (XT ++ M)) (hS : va_S (fun q : Nat => s.heap.size ≤ q) s.heap H locs) (hl : lv_has ls 4 [(0, .ref sb), (1, .ref x), (2, .ref y), (3, .int (nI ii))]), W p l e room_1 s m #[Value.ref sb] below meth c H locs (1009 + 2 * ii) (100145 + 25 * ii) (lw_Z below #[Value.ref sb] s) (F0 m 2459 ls [])) (H : Heap) (locs : List Loc) (ls : Array Slot) (XT M : va_W) (sw sn ki mw mn kp : Nat → Int32) (hXT : XTSt cI cJ cB cZ cL x sw sn ki XT) (hM : MSt cI cJ cB cZ cL y mw mn kp M) (hJ : JJ sw sn ki mw mn kp) (hP : va_P g vwCl (XT ++ M) H) (hD : va_D (fun q : Nat => s.heap.size ≤ q) (XT ++ M)) (hS : va_S (fun q : Nat => s.heap.size ≤ q) s.heap H locs) (hl : lv_has ls 4 [(0, .ref sb), (1, .ref x), (2, .ref y), (3, .int (nI ii))]) : W p l e room_1 s m #[Value.ref sb] below meth c H locs (1000 + 2 * ii) (100000 + 25 * ii) (lw_Z below #[Value.ref sb] s) (F0 m 1973 ls []) := by
  obtain ⟨hx, hb, hr, hml, hown, hts0, hX, hbl, hlocks, hgv⟩ := id C0
  have hts : ∀ w ∈ v_L_law, w.before #[Value.ref sb] s = true := fun w h => hts0 w (in_v_L_law w h)
  have hown : s.vm.findClass RL = some m.cls := hown
  have hA : ∀ q : Nat, s.heap.size ≤ q → (fun q : Nat => s.heap.size ≤ q) q := fun _ h => h
  have hbA : ¬ (fun q : Nat => s.heap.size ≤ q) sb := Nat.not_le.mpr hbl
  refine lv_aload_n hx hb dL_law_1973 rfl (lv_at hl 1 rfl) ?_
  refine lv_aload_n hx hb dL_law_1974 rfl (lv_at hl 0 rfl) ?_
  refine lv_iload_n hx hb dL_law_1975 rfl (lv_at hl 3 rfl) ?_
  refine lv_iconst (v := 1) hx hb dL_law_1976 (by decide) ?_
  refine lv_iadd hx hb dL_law_1977 ?_
  refine va_sld hx hb hX hbl hbA hS (lw_ix 1 h6 hL (by decide)) dL_law_1978 ?_
  refine lv_topi (nm_r (e' := xs (nI ii + 1).toNatClampNeg) rfl ?_)
  refine lv_aload_n hx hb dL_law_1979 rfl (lv_at hl 0 rfl) ?_
  refine lv_iload_n hx hb dL_law_1980 rfl (lv_at hl 3 rfl) ?_
  refine lv_iconst (v := 2) hx hb dL_law_1981 (by decide) ?_
  refine lv_iadd hx hb dL_law_1982 ?_
  refine va_sld hx hb hX hbl hbA hS (lw_ix 2 h6 hL (by decide)) dL_law_1983 ?_
  refine lv_topi (nm_r (e' := xs (nI ii + 2).toNatClampNeg) rfl ?_)
  refine lc_i (X := XT) (Rr := M) (va_runV (As := [.int (xs (nI ii + 1).toNatClampNeg), .int (xs (nI ii + 2).toNatClampNeg)]) (rest := []) ⟨hx, hb, hml, hown, hts⟩ (lift_i (fun im X hX => cx_X11_lives l g cI cJ cB cZ cL kA vA x im X H.size hX (xs (nI ii + 1).toNatClampNeg) (xs (nI ii + 2).toNatClampNeg)) hXT) (cwV 2 hts (goodIn_app (g_4 (List.mem_cons_of_mem _ (List.mem_append_left _ (List.mem_of_getElem? (i := 308) rfl))) (List.mem_cons_of_mem _ (List.mem_append_left _ (List.mem_of_getElem? (i := 309) rfl))) (List.mem_cons_of_mem _ (List.mem_append_left _ (List.mem_of_getElem? (i := 310) rfl))) (List.mem_cons_of_mem _ (List.mem_append_left _ (List.mem_of_getElem? (i := 3) rfl))) (by decide +kernel)) (goodIn_sub ml_v_X11_lives good_v_X11_lives)) rfl rfl rfl (by decide +kernel) ⟨Nat.le_of_ble_eq_true rfl, Nat.le_of_ble_eq_true rfl⟩) (lc_pre (ci := 10) (q := (RX11, TX11, 11)) hK hE hS hA hP hD rfl (xt_mem hXT)) rfl rfl hl.1 rfl (lv_room (Nat.le_of_ble_eq_true rfl)) dL_law_1984 ⟨(by show (1000 + 2 * ii) + 0 ≤ 600000; omega), (by show (100000 + 25 * ii) + 0 ≤ 7302250; omega)⟩) hS hA hP hD (fun r1984 W1 H locs hz1984 hP hD hS => ?_)
  obtain ⟨hr1984, hW1⟩ := hz1984
  refine lv_pop hx hb dL_law_1987 rfl ?_
  refine lv_aload_n hx hb dL_law_1988 rfl (lv_at hl 2 rfl) ?_
  refine lv_aload_n hx hb dL_law_1989 rfl (lv_at hl 0 rfl) ?_
  refine lv_iload_n hx hb dL_law_1990 rfl (lv_at hl 3 rfl) ?_
  refine lv_iconst (v := 1) hx hb dL_law_1991 (by decide) ?_
  refine lv_iadd hx hb dL_law_1992 ?_
  refine va_sld hx hb hX hbl hbA hS (lw_ix 1 h6 hL (by decide)) dL_law_1993 ?_
  refine lv_topi (nm_r (e' := xs (nI ii + 1).toNatClampNeg) rfl ?_)
  refine lv_aload_n hx hb dL_law_1994 rfl (lv_at hl 0 rfl) ?_
  refine lv_iload_n hx hb dL_law_1995 rfl (lv_at hl 3 rfl) ?_
  refine lv_iconst (v := 2) hx hb dL_law_1996 (by decide) ?_
  refine lv_iadd hx hb dL_law_1997 ?_
  refine va_sld hx hb hX hbl hbA hS (lw_ix 2 h6 hL (by decide)) dL_law_1998 ?_
  refine lv_topi (nm_r (e' := xs (nI ii + 2).toNatClampNeg) rfl ?_)
  have hP := pm_Pp List.perm_append_comm hP
  have hD := pm_Dp List.perm_append_comm hD
  refine lc_i (X := M) (Rr := W1) (va_runV (As := [.int (xs (nI ii + 1).toNatClampNeg), .int (xs (nI ii + 2).toNatClampNeg)]) (rest := []) ⟨hx, hb, hml, hown, hts⟩ (cm_X12_lives l g cI cJ cB cZ cL kA vA y M H.size hM (xs (nI ii + 1).toNatClampNeg) (xs (nI ii + 2).toNatClampNeg)) (cwV 2 hts (goodIn_app (g_4 (List.mem_cons_of_mem _ (List.mem_append_left _ (List.mem_of_getElem? (i := 311) rfl))) (List.mem_cons_of_mem _ (List.mem_append_left _ (List.mem_of_getElem? (i := 312) rfl))) (List.mem_cons_of_mem _ (List.mem_append_left _ (List.mem_of_getElem? (i := 313) rfl))) (List.mem_cons_of_mem _ (List.mem_append_left _ (List.mem_of_getElem? (i := 7) rfl))) (by decide +kernel)) (goodIn_sub ml_v_X12_lives good_v_X12_lives)) rfl rfl rfl (by decide +kernel) ⟨Nat.le_of_ble_eq_true rfl, Nat.le_of_ble_eq_true rfl⟩) (lc_pre (ci := 11) (q := (RX12, TX12, 56)) hK hE hS hA hP hD rfl (mt_mem hM)) rfl rfl hl.1 rfl (lv_room (Nat.le_of_ble_eq_true rfl)) dL_law_1999 ⟨(by show (1000 + 2 * ii) + 0 + 0 ≤ 600000; omega), (by show (100000 + 25 * ii) + 0 + 0 ≤ 7302250; omega)⟩) hS hA hP hD (fun r1999 W2 H locs hz1999 hP hD hS => ?_)
  obtain ⟨hr1999, hW2⟩ := hz1999
  have hP := pm_Pp List.perm_append_comm hP
  have hD := pm_Dp List.perm_append_comm hD
  refine lv_pop hx hb dL_law_2002 rfl ?_
  refine lv_goto (tgt := 2459) hx hb dL_law_2003 (by decide) ?_
  refine W.widen (k := 1009 + 2 * ii) (n := 100145 + 25 * ii) (by omega) (by omega) ?_
  exact hend _ _ _ W1 W2 _ _ _ _ _ _ hW1 hW2 hJ hP hD hS hl
set_option maxHeartbeats 4000000 in
set_option maxRecDepth 100000 in
theorem lw_c52 {p : Program} {e : Env} {s : State} {m : MethodId} {below : List Frame} {meth : Method} {c : Code} (l : Launch) {sb L : Nat} {xs : Nat → Int32} (hL : L ≤ 3072) (C0 : lw_At p s m meth c sb L xs) {g : va_G} {cI cJ cB cZ cL : ClassId} (hK : va_K g vwCl (tyT cI cJ cB cZ cL) s) {kA vA : Nat → Nat} (hE : ENV kA vA (fun q : Nat => s.heap.size ≤ q) s) {x y : Nat} {ii : Nat} (h6 : ii + 6 ≤ L) (hend : ∀ (H : Heap) (locs : List Loc) (ls : Array Slot) (XT M : va_W) (sw sn ki mw mn kp : Nat → Int32) (hXT : XTSt cI cJ cB cZ cL x sw sn ki XT) (hM : MSt cI cJ cB cZ cL y mw mn kp M) (hJ : JJ sw sn ki mw mn kp) (hP : va_P g vwCl (XT ++ M) H) (hD : va_D (fun q : Nat => s.heap.size ≤ q) (XT ++ M)) (hS : va_S (fun q : Nat => s.heap.size ≤ q) s.heap H locs) (hl : lv_has ls 4 [(0, .ref sb), (1, .ref x), (2, .ref y), (3, .int (nI ii))]), W p l e room_1 s m #[Value.ref sb] below meth c H locs (1009 + 2 * ii) (100145 + 25 * ii) (lw_Z below #[Value.ref sb] s) (F0 m 2459 ls [])) (H : Heap) (locs : List Loc) (ls : Array Slot) (XT M : va_W) (sw sn ki mw mn kp : Nat → Int32) (hXT : XTSt cI cJ cB cZ cL x sw sn ki XT) (hM : MSt cI cJ cB cZ cL y mw mn kp M) (hJ : JJ sw sn ki mw mn kp) (hP : va_P g vwCl (XT ++ M) H) (hD : va_D (fun q : Nat => s.heap.size ≤ q) (XT ++ M)) (hS : va_S (fun q : Nat => s.heap.size ≤ q) s.heap H locs) (hl : lv_has ls 4 [(0, .ref sb), (1, .ref x), (2, .ref y), (3, .int (nI ii))]) : W p l e room_1 s m #[Value.ref sb] below meth c H locs (1000 + 2 * ii) (100000 + 25 * ii) (lw_Z below #[Value.ref sb] s) (F0 m 2006 ls []) := by
  obtain ⟨hx, hb, hr, hml, hown, hts0, hX, hbl, hlocks, hgv⟩ := id C0
  have hts : ∀ w ∈ v_L_law, w.before #[Value.ref sb] s = true := fun w h => hts0 w (in_v_L_law w h)
  have hown : s.vm.findClass RL = some m.cls := hown
  have hA : ∀ q : Nat, s.heap.size ≤ q → (fun q : Nat => s.heap.size ≤ q) q := fun _ h => h
  have hbA : ¬ (fun q : Nat => s.heap.size ≤ q) sb := Nat.not_le.mpr hbl
  refine lv_aload_n hx hb dL_law_2006 rfl (lv_at hl 1 rfl) ?_
  refine lv_aload_n hx hb dL_law_2007 rfl (lv_at hl 0 rfl) ?_
  refine lv_iload_n hx hb dL_law_2008 rfl (lv_at hl 3 rfl) ?_
  refine lv_iconst (v := 1) hx hb dL_law_2009 (by decide) ?_
  refine lv_iadd hx hb dL_law_2010 ?_
  refine va_sld hx hb hX hbl hbA hS (lw_ix 1 h6 hL (by decide)) dL_law_2011 ?_
  refine lv_topi (nm_r (e' := xs (nI ii + 1).toNatClampNeg) rfl ?_)
  refine lv_aload_n hx hb dL_law_2012 rfl (lv_at hl 0 rfl) ?_
  refine lv_iload_n hx hb dL_law_2013 rfl (lv_at hl 3 rfl) ?_
  refine lv_iconst (v := 2) hx hb dL_law_2014 (by decide) ?_
  refine lv_iadd hx hb dL_law_2015 ?_
  refine va_sld hx hb hX hbl hbA hS (lw_ix 2 h6 hL (by decide)) dL_law_2016 ?_
  refine lv_topi (nm_r (e' := xs (nI ii + 2).toNatClampNeg) rfl ?_)
  refine lv_aload_n hx hb dL_law_2017 rfl (lv_at hl 0 rfl) ?_
  refine lv_iload_n hx hb dL_law_2018 rfl (lv_at hl 3 rfl) ?_
  refine lv_iconst (v := 3) hx hb dL_law_2019 (by decide) ?_
  refine lv_iadd hx hb dL_law_2020 ?_
  refine va_sld hx hb hX hbl hbA hS (lw_ix 3 h6 hL (by decide)) dL_law_2021 ?_
  refine lv_topi (nm_r (e' := xs (nI ii + 3).toNatClampNeg) rfl ?_)
  refine lc_i (X := XT) (Rr := M) (va_runV (As := [.int (xs (nI ii + 1).toNatClampNeg), .int (xs (nI ii + 2).toNatClampNeg), .int (xs (nI ii + 3).toNatClampNeg)]) (rest := []) ⟨hx, hb, hml, hown, hts⟩ (lift_i (fun im X hX => cx_X11_lasts l g cI cJ cB cZ cL kA vA x im X H.size hX (xs (nI ii + 1).toNatClampNeg) (xs (nI ii + 2).toNatClampNeg) (xs (nI ii + 3).toNatClampNeg)) hXT) (cwV 3 hts (goodIn_app (g_4 (List.mem_cons_of_mem _ (List.mem_append_left _ (List.mem_of_getElem? (i := 314) rfl))) (List.mem_cons_of_mem _ (List.mem_append_left _ (List.mem_of_getElem? (i := 315) rfl))) (List.mem_cons_of_mem _ (List.mem_append_left _ (List.mem_of_getElem? (i := 316) rfl))) (List.mem_cons_of_mem _ (List.mem_append_left _ (List.mem_of_getElem? (i := 3) rfl))) (by decide +kernel)) (goodIn_sub ml_v_X11_lasts good_v_X11_lasts)) rfl rfl rfl (by decide +kernel) ⟨Nat.le_of_ble_eq_true rfl, Nat.le_of_ble_eq_true rfl⟩) (lc_pre (ci := 10) (q := (RX11, TX11, 11)) hK hE hS hA hP hD rfl (xt_mem hXT)) rfl rfl hl.1 rfl (lv_room (Nat.le_of_ble_eq_true rfl)) dL_law_2022 ⟨(by show (1000 + 2 * ii) + 0 ≤ 600000; omega), (by show (100000 + 25 * ii) + 0 ≤ 7302250; omega)⟩) hS hA hP hD (fun r2022 W1 H locs hz2022 hP hD hS => ?_)
  obtain ⟨hr2022, hW1⟩ := hz2022
  refine lv_pop hx hb dL_law_2025 rfl ?_
  refine lv_aload_n hx hb dL_law_2026 rfl (lv_at hl 2 rfl) ?_
  refine lv_aload_n hx hb dL_law_2027 rfl (lv_at hl 0 rfl) ?_
  refine lv_iload_n hx hb dL_law_2028 rfl (lv_at hl 3 rfl) ?_
  refine lv_iconst (v := 1) hx hb dL_law_2029 (by decide) ?_
  refine lv_iadd hx hb dL_law_2030 ?_
  refine va_sld hx hb hX hbl hbA hS (lw_ix 1 h6 hL (by decide)) dL_law_2031 ?_
  refine lv_topi (nm_r (e' := xs (nI ii + 1).toNatClampNeg) rfl ?_)
  refine lv_aload_n hx hb dL_law_2032 rfl (lv_at hl 0 rfl) ?_
  refine lv_iload_n hx hb dL_law_2033 rfl (lv_at hl 3 rfl) ?_
  refine lv_iconst (v := 2) hx hb dL_law_2034 (by decide) ?_
  refine lv_iadd hx hb dL_law_2035 ?_
  refine va_sld hx hb hX hbl hbA hS (lw_ix 2 h6 hL (by decide)) dL_law_2036 ?_
  refine lv_topi (nm_r (e' := xs (nI ii + 2).toNatClampNeg) rfl ?_)
  refine lv_aload_n hx hb dL_law_2037 rfl (lv_at hl 0 rfl) ?_
  refine lv_iload_n hx hb dL_law_2038 rfl (lv_at hl 3 rfl) ?_
  refine lv_iconst (v := 3) hx hb dL_law_2039 (by decide) ?_
  refine lv_iadd hx hb dL_law_2040 ?_
  refine va_sld hx hb hX hbl hbA hS (lw_ix 3 h6 hL (by decide)) dL_law_2041 ?_
  refine lv_topi (nm_r (e' := xs (nI ii + 3).toNatClampNeg) rfl ?_)
  have hP := pm_Pp List.perm_append_comm hP
  have hD := pm_Dp List.perm_append_comm hD
  refine lc_i (X := M) (Rr := W1) (va_runV (As := [.int (xs (nI ii + 1).toNatClampNeg), .int (xs (nI ii + 2).toNatClampNeg), .int (xs (nI ii + 3).toNatClampNeg)]) (rest := []) ⟨hx, hb, hml, hown, hts⟩ (cm_X12_lasts l g cI cJ cB cZ cL kA vA y M H.size hM (xs (nI ii + 1).toNatClampNeg) (xs (nI ii + 2).toNatClampNeg) (xs (nI ii + 3).toNatClampNeg)) (cwV 3 hts (goodIn_app (g_4 (List.mem_cons_of_mem _ (List.mem_append_left _ (List.mem_of_getElem? (i := 317) rfl))) (List.mem_cons_of_mem _ (List.mem_append_left _ (List.mem_of_getElem? (i := 318) rfl))) (List.mem_cons_of_mem _ (List.mem_append_left _ (List.mem_of_getElem? (i := 319) rfl))) (List.mem_cons_of_mem _ (List.mem_append_left _ (List.mem_of_getElem? (i := 7) rfl))) (by decide +kernel)) (goodIn_sub ml_v_X12_lasts good_v_X12_lasts)) rfl rfl rfl (by decide +kernel) ⟨Nat.le_of_ble_eq_true rfl, Nat.le_of_ble_eq_true rfl⟩) (lc_pre (ci := 11) (q := (RX12, TX12, 56)) hK hE hS hA hP hD rfl (mt_mem hM)) rfl rfl hl.1 rfl (lv_room (Nat.le_of_ble_eq_true rfl)) dL_law_2042 ⟨(by show (1000 + 2 * ii) + 0 + 0 ≤ 600000; omega), (by show (100000 + 25 * ii) + 0 + 0 ≤ 7302250; omega)⟩) hS hA hP hD (fun r2042 W2 H locs hz2042 hP hD hS => ?_)
  obtain ⟨hr2042, hW2⟩ := hz2042
  have hP := pm_Pp List.perm_append_comm hP
  have hD := pm_Dp List.perm_append_comm hD
  refine lv_pop hx hb dL_law_2045 rfl ?_
  refine lv_goto (tgt := 2459) hx hb dL_law_2046 (by decide) ?_
  refine W.widen (k := 1009 + 2 * ii) (n := 100145 + 25 * ii) (by omega) (by omega) ?_
  exact hend _ _ _ W1 W2 _ _ _ _ _ _ hW1 hW2 hJ hP hD hS hl
set_option maxHeartbeats 4000000 in
set_option maxRecDepth 100000 in
theorem lw_c53 {p : Program} {e : Env} {s : State} {m : MethodId} {below : List Frame} {meth : Method} {c : Code} (l : Launch) {sb L : Nat} {xs : Nat → Int32} (hL : L ≤ 3072) (C0 : lw_At p s m meth c sb L xs) {g : va_G} {cI cJ cB cZ cL : ClassId} (hK : va_K g vwCl (tyT cI cJ cB cZ cL) s) {kA vA : Nat → Nat} (hE : ENV kA vA (fun q : Nat => s.heap.size ≤ q) s) {x y : Nat} {ii : Nat} (h6 : ii + 6 ≤ L) (hend : ∀ (H : Heap) (locs : List Loc) (ls : Array Slot) (XT M : va_W) (sw sn ki mw mn kp : Nat → Int32) (hXT : XTSt cI cJ cB cZ cL x sw sn ki XT) (hM : MSt cI cJ cB cZ cL y mw mn kp M) (hJ : JJ sw sn ki mw mn kp) (hP : va_P g vwCl (XT ++ M) H) (hD : va_D (fun q : Nat => s.heap.size ≤ q) (XT ++ M)) (hS : va_S (fun q : Nat => s.heap.size ≤ q) s.heap H locs) (hl : lv_has ls 4 [(0, .ref sb), (1, .ref x), (2, .ref y), (3, .int (nI ii))]), W p l e room_1 s m #[Value.ref sb] below meth c H locs (1009 + 2 * ii) (100145 + 25 * ii) (lw_Z below #[Value.ref sb] s) (F0 m 2459 ls [])) (H : Heap) (locs : List Loc) (ls : Array Slot) (XT M : va_W) (sw sn ki mw mn kp : Nat → Int32) (hXT : XTSt cI cJ cB cZ cL x sw sn ki XT) (hM : MSt cI cJ cB cZ cL y mw mn kp M) (hJ : JJ sw sn ki mw mn kp) (hP : va_P g vwCl (XT ++ M) H) (hD : va_D (fun q : Nat => s.heap.size ≤ q) (XT ++ M)) (hS : va_S (fun q : Nat => s.heap.size ≤ q) s.heap H locs) (hl : lv_has ls 4 [(0, .ref sb), (1, .ref x), (2, .ref y), (3, .int (nI ii))]) : W p l e room_1 s m #[Value.ref sb] below meth c H locs (1000 + 2 * ii) (100000 + 25 * ii) (lw_Z below #[Value.ref sb] s) (F0 m 2049 ls []) := by
  obtain ⟨hx, hb, hr, hml, hown, hts0, hX, hbl, hlocks, hgv⟩ := id C0
  have hts : ∀ w ∈ v_L_law, w.before #[Value.ref sb] s = true := fun w h => hts0 w (in_v_L_law w h)
  have hown : s.vm.findClass RL = some m.cls := hown
  have hA : ∀ q : Nat, s.heap.size ≤ q → (fun q : Nat => s.heap.size ≤ q) q := fun _ h => h
  have hbA : ¬ (fun q : Nat => s.heap.size ≤ q) sb := Nat.not_le.mpr hbl
  refine lv_aload_n hx hb dL_law_2049 rfl (lv_at hl 1 rfl) ?_
  refine lv_aload_n hx hb dL_law_2050 rfl (lv_at hl 0 rfl) ?_
  refine lv_iload_n hx hb dL_law_2051 rfl (lv_at hl 3 rfl) ?_
  refine lv_iconst (v := 1) hx hb dL_law_2052 (by decide) ?_
  refine lv_iadd hx hb dL_law_2053 ?_
  refine va_sld hx hb hX hbl hbA hS (lw_ix 1 h6 hL (by decide)) dL_law_2054 ?_
  refine lv_topi (nm_r (e' := xs (nI ii + 1).toNatClampNeg) rfl ?_)
  refine lv_aload_n hx hb dL_law_2055 rfl (lv_at hl 0 rfl) ?_
  refine lv_iload_n hx hb dL_law_2056 rfl (lv_at hl 3 rfl) ?_
  refine lv_iconst (v := 2) hx hb dL_law_2057 (by decide) ?_
  refine lv_iadd hx hb dL_law_2058 ?_
  refine va_sld hx hb hX hbl hbA hS (lw_ix 2 h6 hL (by decide)) dL_law_2059 ?_
  refine lv_topi (nm_r (e' := xs (nI ii + 2).toNatClampNeg) rfl ?_)
  refine lv_aload_n hx hb dL_law_2060 rfl (lv_at hl 0 rfl) ?_
  refine lv_iload_n hx hb dL_law_2061 rfl (lv_at hl 3 rfl) ?_
  refine lv_iconst (v := 3) hx hb dL_law_2062 (by decide) ?_
  refine lv_iadd hx hb dL_law_2063 ?_
  refine va_sld hx hb hX hbl hbA hS (lw_ix 3 h6 hL (by decide)) dL_law_2064 ?_
  refine lv_topi (nm_r (e' := xs (nI ii + 3).toNatClampNeg) rfl ?_)
  refine lc_i (X := XT) (Rr := M) (va_runV (As := [.int (xs (nI ii + 1).toNatClampNeg), .int (xs (nI ii + 2).toNatClampNeg), .int (xs (nI ii + 3).toNatClampNeg)]) (rest := []) ⟨hx, hb, hml, hown, hts⟩ (lift_i (fun im X hX => cx_X11_train l g cI cJ cB cZ cL kA vA x im X H.size hX (xs (nI ii + 1).toNatClampNeg) (xs (nI ii + 2).toNatClampNeg) (xs (nI ii + 3).toNatClampNeg)) hXT) (cwV 3 hts (goodIn_app (g_4 (List.mem_cons_of_mem _ (List.mem_append_left _ (List.mem_of_getElem? (i := 320) rfl))) (List.mem_cons_of_mem _ (List.mem_append_left _ (List.mem_of_getElem? (i := 321) rfl))) (List.mem_cons_of_mem _ (List.mem_append_left _ (List.mem_of_getElem? (i := 322) rfl))) (List.mem_cons_of_mem _ (List.mem_append_left _ (List.mem_of_getElem? (i := 3) rfl))) (by decide +kernel)) (goodIn_sub ml_v_X11_train good_v_X11_train)) rfl rfl rfl (by decide +kernel) ⟨Nat.le_of_ble_eq_true rfl, Nat.le_of_ble_eq_true rfl⟩) (lc_pre (ci := 10) (q := (RX11, TX11, 11)) hK hE hS hA hP hD rfl (xt_mem hXT)) rfl rfl hl.1 rfl (lv_room (Nat.le_of_ble_eq_true rfl)) dL_law_2065 ⟨(by show (1000 + 2 * ii) + 0 ≤ 600000; omega), (by show (100000 + 25 * ii) + 0 ≤ 7302250; omega)⟩) hS hA hP hD (fun r2065 W1 H locs hz2065 hP hD hS => ?_)
  obtain ⟨hr2065, hW1⟩ := hz2065
  refine lv_pop hx hb dL_law_2068 rfl ?_
  refine lv_aload_n hx hb dL_law_2069 rfl (lv_at hl 2 rfl) ?_
  refine lv_aload_n hx hb dL_law_2070 rfl (lv_at hl 0 rfl) ?_
  refine lv_iload_n hx hb dL_law_2071 rfl (lv_at hl 3 rfl) ?_
  refine lv_iconst (v := 1) hx hb dL_law_2072 (by decide) ?_
  refine lv_iadd hx hb dL_law_2073 ?_
  refine va_sld hx hb hX hbl hbA hS (lw_ix 1 h6 hL (by decide)) dL_law_2074 ?_
  refine lv_topi (nm_r (e' := xs (nI ii + 1).toNatClampNeg) rfl ?_)
  refine lv_aload_n hx hb dL_law_2075 rfl (lv_at hl 0 rfl) ?_
  refine lv_iload_n hx hb dL_law_2076 rfl (lv_at hl 3 rfl) ?_
  refine lv_iconst (v := 2) hx hb dL_law_2077 (by decide) ?_
  refine lv_iadd hx hb dL_law_2078 ?_
  refine va_sld hx hb hX hbl hbA hS (lw_ix 2 h6 hL (by decide)) dL_law_2079 ?_
  refine lv_topi (nm_r (e' := xs (nI ii + 2).toNatClampNeg) rfl ?_)
  refine lv_aload_n hx hb dL_law_2080 rfl (lv_at hl 0 rfl) ?_
  refine lv_iload_n hx hb dL_law_2081 rfl (lv_at hl 3 rfl) ?_
  refine lv_iconst (v := 3) hx hb dL_law_2082 (by decide) ?_
  refine lv_iadd hx hb dL_law_2083 ?_
  refine va_sld hx hb hX hbl hbA hS (lw_ix 3 h6 hL (by decide)) dL_law_2084 ?_
  refine lv_topi (nm_r (e' := xs (nI ii + 3).toNatClampNeg) rfl ?_)
  have hP := pm_Pp List.perm_append_comm hP
  have hD := pm_Dp List.perm_append_comm hD
  refine lc_i (X := M) (Rr := W1) (va_runV (As := [.int (xs (nI ii + 1).toNatClampNeg), .int (xs (nI ii + 2).toNatClampNeg), .int (xs (nI ii + 3).toNatClampNeg)]) (rest := []) ⟨hx, hb, hml, hown, hts⟩ (cm_X12_train l g cI cJ cB cZ cL kA vA y M H.size hM (xs (nI ii + 1).toNatClampNeg) (xs (nI ii + 2).toNatClampNeg) (xs (nI ii + 3).toNatClampNeg)) (cwV 3 hts (goodIn_app (g_4 (List.mem_cons_of_mem _ (List.mem_append_left _ (List.mem_of_getElem? (i := 323) rfl))) (List.mem_cons_of_mem _ (List.mem_append_left _ (List.mem_of_getElem? (i := 324) rfl))) (List.mem_cons_of_mem _ (List.mem_append_left _ (List.mem_of_getElem? (i := 325) rfl))) (List.mem_cons_of_mem _ (List.mem_append_left _ (List.mem_of_getElem? (i := 7) rfl))) (by decide +kernel)) (goodIn_sub ml_v_X12_train good_v_X12_train)) rfl rfl rfl (by decide +kernel) ⟨Nat.le_of_ble_eq_true rfl, Nat.le_of_ble_eq_true rfl⟩) (lc_pre (ci := 11) (q := (RX12, TX12, 56)) hK hE hS hA hP hD rfl (mt_mem hM)) rfl rfl hl.1 rfl (lv_room (Nat.le_of_ble_eq_true rfl)) dL_law_2085 ⟨(by show (1000 + 2 * ii) + 0 + 0 ≤ 600000; omega), (by show (100000 + 25 * ii) + 0 + 0 ≤ 7302250; omega)⟩) hS hA hP hD (fun r2085 W2 H locs hz2085 hP hD hS => ?_)
  obtain ⟨hr2085, hW2⟩ := hz2085
  have hP := pm_Pp List.perm_append_comm hP
  have hD := pm_Dp List.perm_append_comm hD
  refine lv_pop hx hb dL_law_2088 rfl ?_
  refine lv_goto (tgt := 2459) hx hb dL_law_2089 (by decide) ?_
  refine W.widen (k := 1009 + 2 * ii) (n := 100145 + 25 * ii) (by omega) (by omega) ?_
  exact hend _ _ _ W1 W2 _ _ _ _ _ _ hW1 hW2 hJ hP hD hS hl
set_option maxHeartbeats 4000000 in
set_option maxRecDepth 100000 in
theorem lw_c54 {p : Program} {e : Env} {s : State} {m : MethodId} {below : List Frame} {meth : Method} {c : Code} (l : Launch) {sb L : Nat} {xs : Nat → Int32} (hL : L ≤ 3072) (C0 : lw_At p s m meth c sb L xs) {g : va_G} {cI cJ cB cZ cL : ClassId} (hK : va_K g vwCl (tyT cI cJ cB cZ cL) s) {kA vA : Nat → Nat} (hE : ENV kA vA (fun q : Nat => s.heap.size ≤ q) s) {x y : Nat} {ii : Nat} (h6 : ii + 6 ≤ L) (hend : ∀ (H : Heap) (locs : List Loc) (ls : Array Slot) (XT M : va_W) (sw sn ki mw mn kp : Nat → Int32) (hXT : XTSt cI cJ cB cZ cL x sw sn ki XT) (hM : MSt cI cJ cB cZ cL y mw mn kp M) (hJ : JJ sw sn ki mw mn kp) (hP : va_P g vwCl (XT ++ M) H) (hD : va_D (fun q : Nat => s.heap.size ≤ q) (XT ++ M)) (hS : va_S (fun q : Nat => s.heap.size ≤ q) s.heap H locs) (hl : lv_has ls 4 [(0, .ref sb), (1, .ref x), (2, .ref y), (3, .int (nI ii))]), W p l e room_1 s m #[Value.ref sb] below meth c H locs (1009 + 2 * ii) (100145 + 25 * ii) (lw_Z below #[Value.ref sb] s) (F0 m 2459 ls [])) (H : Heap) (locs : List Loc) (ls : Array Slot) (XT M : va_W) (sw sn ki mw mn kp : Nat → Int32) (hXT : XTSt cI cJ cB cZ cL x sw sn ki XT) (hM : MSt cI cJ cB cZ cL y mw mn kp M) (hJ : JJ sw sn ki mw mn kp) (hP : va_P g vwCl (XT ++ M) H) (hD : va_D (fun q : Nat => s.heap.size ≤ q) (XT ++ M)) (hS : va_S (fun q : Nat => s.heap.size ≤ q) s.heap H locs) (hl : lv_has ls 4 [(0, .ref sb), (1, .ref x), (2, .ref y), (3, .int (nI ii))]) : W p l e room_1 s m #[Value.ref sb] below meth c H locs (1000 + 2 * ii) (100000 + 25 * ii) (lw_Z below #[Value.ref sb] s) (F0 m 2092 ls []) := by
  obtain ⟨hx, hb, hr, hml, hown, hts0, hX, hbl, hlocks, hgv⟩ := id C0
  have hts : ∀ w ∈ v_L_law, w.before #[Value.ref sb] s = true := fun w h => hts0 w (in_v_L_law w h)
  have hown : s.vm.findClass RL = some m.cls := hown
  have hA : ∀ q : Nat, s.heap.size ≤ q → (fun q : Nat => s.heap.size ≤ q) q := fun _ h => h
  have hbA : ¬ (fun q : Nat => s.heap.size ≤ q) sb := Nat.not_le.mpr hbl
  refine lv_aload_n hx hb dL_law_2092 rfl (lv_at hl 1 rfl) ?_
  refine lv_aload_n hx hb dL_law_2093 rfl (lv_at hl 0 rfl) ?_
  refine lv_iload_n hx hb dL_law_2094 rfl (lv_at hl 3 rfl) ?_
  refine lv_iconst (v := 1) hx hb dL_law_2095 (by decide) ?_
  refine lv_iadd hx hb dL_law_2096 ?_
  refine va_sld hx hb hX hbl hbA hS (lw_ix 1 h6 hL (by decide)) dL_law_2097 ?_
  refine lv_topi (nm_r (e' := xs (nI ii + 1).toNatClampNeg) rfl ?_)
  refine lv_aload_n hx hb dL_law_2098 rfl (lv_at hl 0 rfl) ?_
  refine lv_iload_n hx hb dL_law_2099 rfl (lv_at hl 3 rfl) ?_
  refine lv_iconst (v := 2) hx hb dL_law_2100 (by decide) ?_
  refine lv_iadd hx hb dL_law_2101 ?_
  refine va_sld hx hb hX hbl hbA hS (lw_ix 2 h6 hL (by decide)) dL_law_2102 ?_
  refine lv_topi (nm_r (e' := xs (nI ii + 2).toNatClampNeg) rfl ?_)
  refine lc_i (X := XT) (Rr := M) (va_runV (As := [.int (xs (nI ii + 1).toNatClampNeg), .int (xs (nI ii + 2).toNatClampNeg)]) (rest := []) ⟨hx, hb, hml, hown, hts⟩ (lift_i (fun im X hX => cx_X11_begin l g cI cJ cB cZ cL kA vA x im X H.size hX (xs (nI ii + 1).toNatClampNeg) (xs (nI ii + 2).toNatClampNeg)) hXT) (cwV 2 hts (goodIn_app (g_4 (List.mem_cons_of_mem _ (List.mem_append_left _ (List.mem_of_getElem? (i := 326) rfl))) (List.mem_cons_of_mem _ (List.mem_append_left _ (List.mem_of_getElem? (i := 327) rfl))) (List.mem_cons_of_mem _ (List.mem_append_left _ (List.mem_of_getElem? (i := 328) rfl))) (List.mem_cons_of_mem _ (List.mem_append_left _ (List.mem_of_getElem? (i := 3) rfl))) (by decide +kernel)) (goodIn_sub ml_v_X11_begin good_v_X11_begin)) rfl rfl rfl (by decide +kernel) ⟨Nat.le_of_ble_eq_true rfl, Nat.le_of_ble_eq_true rfl⟩) (lc_pre (ci := 10) (q := (RX11, TX11, 11)) hK hE hS hA hP hD rfl (xt_mem hXT)) rfl rfl hl.1 rfl (lv_room (Nat.le_of_ble_eq_true rfl)) dL_law_2103 ⟨(by show (1000 + 2 * ii) + 0 ≤ 600000; omega), (by show (100000 + 25 * ii) + 0 ≤ 7302250; omega)⟩) hS hA hP hD (fun r2103 W1 H locs hz2103 hP hD hS => ?_)
  obtain ⟨hr2103, hW1⟩ := hz2103
  refine lv_pop hx hb dL_law_2106 rfl ?_
  refine lv_aload_n hx hb dL_law_2107 rfl (lv_at hl 2 rfl) ?_
  refine lv_aload_n hx hb dL_law_2108 rfl (lv_at hl 0 rfl) ?_
  refine lv_iload_n hx hb dL_law_2109 rfl (lv_at hl 3 rfl) ?_
  refine lv_iconst (v := 1) hx hb dL_law_2110 (by decide) ?_
  refine lv_iadd hx hb dL_law_2111 ?_
  refine va_sld hx hb hX hbl hbA hS (lw_ix 1 h6 hL (by decide)) dL_law_2112 ?_
  refine lv_topi (nm_r (e' := xs (nI ii + 1).toNatClampNeg) rfl ?_)
  refine lv_aload_n hx hb dL_law_2113 rfl (lv_at hl 0 rfl) ?_
  refine lv_iload_n hx hb dL_law_2114 rfl (lv_at hl 3 rfl) ?_
  refine lv_iconst (v := 2) hx hb dL_law_2115 (by decide) ?_
  refine lv_iadd hx hb dL_law_2116 ?_
  refine va_sld hx hb hX hbl hbA hS (lw_ix 2 h6 hL (by decide)) dL_law_2117 ?_
  refine lv_topi (nm_r (e' := xs (nI ii + 2).toNatClampNeg) rfl ?_)
  have hP := pm_Pp List.perm_append_comm hP
  have hD := pm_Dp List.perm_append_comm hD
  refine lc_i (X := M) (Rr := W1) (va_runV (As := [.int (xs (nI ii + 1).toNatClampNeg), .int (xs (nI ii + 2).toNatClampNeg)]) (rest := []) ⟨hx, hb, hml, hown, hts⟩ (cm_X12_begin l g cI cJ cB cZ cL kA vA y M H.size hM (xs (nI ii + 1).toNatClampNeg) (xs (nI ii + 2).toNatClampNeg)) (cwV 2 hts (goodIn_app (g_4 (List.mem_cons_of_mem _ (List.mem_append_left _ (List.mem_of_getElem? (i := 329) rfl))) (List.mem_cons_of_mem _ (List.mem_append_left _ (List.mem_of_getElem? (i := 330) rfl))) (List.mem_cons_of_mem _ (List.mem_append_left _ (List.mem_of_getElem? (i := 331) rfl))) (List.mem_cons_of_mem _ (List.mem_append_left _ (List.mem_of_getElem? (i := 7) rfl))) (by decide +kernel)) (goodIn_sub ml_v_X12_begin good_v_X12_begin)) rfl rfl rfl (by decide +kernel) ⟨Nat.le_of_ble_eq_true rfl, Nat.le_of_ble_eq_true rfl⟩) (lc_pre (ci := 11) (q := (RX12, TX12, 56)) hK hE hS hA hP hD rfl (mt_mem hM)) rfl rfl hl.1 rfl (lv_room (Nat.le_of_ble_eq_true rfl)) dL_law_2118 ⟨(by show (1000 + 2 * ii) + 0 + 0 ≤ 600000; omega), (by show (100000 + 25 * ii) + 0 + 0 ≤ 7302250; omega)⟩) hS hA hP hD (fun r2118 W2 H locs hz2118 hP hD hS => ?_)
  obtain ⟨hr2118, hW2⟩ := hz2118
  have hP := pm_Pp List.perm_append_comm hP
  have hD := pm_Dp List.perm_append_comm hD
  refine lv_pop hx hb dL_law_2121 rfl ?_
  refine lv_goto (tgt := 2459) hx hb dL_law_2122 (by decide) ?_
  refine W.widen (k := 1009 + 2 * ii) (n := 100145 + 25 * ii) (by omega) (by omega) ?_
  exact hend _ _ _ W1 W2 _ _ _ _ _ _ hW1 hW2 hJ hP hD hS hl
set_option maxHeartbeats 4000000 in
set_option maxRecDepth 100000 in
theorem lw_c55 {p : Program} {e : Env} {s : State} {m : MethodId} {below : List Frame} {meth : Method} {c : Code} (l : Launch) {sb L : Nat} {xs : Nat → Int32} (hL : L ≤ 3072) (C0 : lw_At p s m meth c sb L xs) {g : va_G} {cI cJ cB cZ cL : ClassId} (hK : va_K g vwCl (tyT cI cJ cB cZ cL) s) {kA vA : Nat → Nat} (hE : ENV kA vA (fun q : Nat => s.heap.size ≤ q) s) {x y : Nat} {ii : Nat} (h6 : ii + 6 ≤ L) (hend : ∀ (H : Heap) (locs : List Loc) (ls : Array Slot) (XT M : va_W) (sw sn ki mw mn kp : Nat → Int32) (hXT : XTSt cI cJ cB cZ cL x sw sn ki XT) (hM : MSt cI cJ cB cZ cL y mw mn kp M) (hJ : JJ sw sn ki mw mn kp) (hP : va_P g vwCl (XT ++ M) H) (hD : va_D (fun q : Nat => s.heap.size ≤ q) (XT ++ M)) (hS : va_S (fun q : Nat => s.heap.size ≤ q) s.heap H locs) (hl : lv_has ls 4 [(0, .ref sb), (1, .ref x), (2, .ref y), (3, .int (nI ii))]), W p l e room_1 s m #[Value.ref sb] below meth c H locs (1009 + 2 * ii) (100145 + 25 * ii) (lw_Z below #[Value.ref sb] s) (F0 m 2459 ls [])) (H : Heap) (locs : List Loc) (ls : Array Slot) (XT M : va_W) (sw sn ki mw mn kp : Nat → Int32) (hXT : XTSt cI cJ cB cZ cL x sw sn ki XT) (hM : MSt cI cJ cB cZ cL y mw mn kp M) (hJ : JJ sw sn ki mw mn kp) (hP : va_P g vwCl (XT ++ M) H) (hD : va_D (fun q : Nat => s.heap.size ≤ q) (XT ++ M)) (hS : va_S (fun q : Nat => s.heap.size ≤ q) s.heap H locs) (hl : lv_has ls 4 [(0, .ref sb), (1, .ref x), (2, .ref y), (3, .int (nI ii))]) : W p l e room_1 s m #[Value.ref sb] below meth c H locs (1000 + 2 * ii) (100000 + 25 * ii) (lw_Z below #[Value.ref sb] s) (F0 m 2125 ls []) := by
  obtain ⟨hx, hb, hr, hml, hown, hts0, hX, hbl, hlocks, hgv⟩ := id C0
  have hts : ∀ w ∈ v_L_law, w.before #[Value.ref sb] s = true := fun w h => hts0 w (in_v_L_law w h)
  have hown : s.vm.findClass RL = some m.cls := hown
  have hA : ∀ q : Nat, s.heap.size ≤ q → (fun q : Nat => s.heap.size ≤ q) q := fun _ h => h
  have hbA : ¬ (fun q : Nat => s.heap.size ≤ q) sb := Nat.not_le.mpr hbl
  refine lv_aload_n hx hb dL_law_2125 rfl (lv_at hl 1 rfl) ?_
  refine lv_aload_n hx hb dL_law_2126 rfl (lv_at hl 0 rfl) ?_
  refine lv_iload_n hx hb dL_law_2127 rfl (lv_at hl 3 rfl) ?_
  refine lv_iconst (v := 1) hx hb dL_law_2128 (by decide) ?_
  refine lv_iadd hx hb dL_law_2129 ?_
  refine va_sld hx hb hX hbl hbA hS (lw_ix 1 h6 hL (by decide)) dL_law_2130 ?_
  refine lv_topi (nm_r (e' := xs (nI ii + 1).toNatClampNeg) rfl ?_)
  refine lv_aload_n hx hb dL_law_2131 rfl (lv_at hl 0 rfl) ?_
  refine lv_iload_n hx hb dL_law_2132 rfl (lv_at hl 3 rfl) ?_
  refine lv_iconst (v := 2) hx hb dL_law_2133 (by decide) ?_
  refine lv_iadd hx hb dL_law_2134 ?_
  refine va_sld hx hb hX hbl hbA hS (lw_ix 2 h6 hL (by decide)) dL_law_2135 ?_
  refine lv_topi (nm_r (e' := xs (nI ii + 2).toNatClampNeg) rfl ?_)
  refine lv_aload_n hx hb dL_law_2136 rfl (lv_at hl 0 rfl) ?_
  refine lv_iload_n hx hb dL_law_2137 rfl (lv_at hl 3 rfl) ?_
  refine lv_iconst (v := 3) hx hb dL_law_2138 (by decide) ?_
  refine lv_iadd hx hb dL_law_2139 ?_
  refine va_sld hx hb hX hbl hbA hS (lw_ix 3 h6 hL (by decide)) dL_law_2140 ?_
  refine lv_topi (nm_r (e' := xs (nI ii + 3).toNatClampNeg) rfl ?_)
  refine lv_aload_n hx hb dL_law_2141 rfl (lv_at hl 0 rfl) ?_
  refine lv_iload_n hx hb dL_law_2142 rfl (lv_at hl 3 rfl) ?_
  refine lv_iconst (v := 4) hx hb dL_law_2143 (by decide) ?_
  refine lv_iadd hx hb dL_law_2144 ?_
  refine va_sld hx hb hX hbl hbA hS (lw_ix 4 h6 hL (by decide)) dL_law_2145 ?_
  refine lv_topi (nm_r (e' := xs (nI ii + 4).toNatClampNeg) rfl ?_)
  refine lc_i (X := XT) (Rr := M) (va_runV (As := [.int (xs (nI ii + 1).toNatClampNeg), .int (xs (nI ii + 2).toNatClampNeg), .int (xs (nI ii + 3).toNatClampNeg), .int (xs (nI ii + 4).toNatClampNeg)]) (rest := []) ⟨hx, hb, hml, hown, hts⟩ (lift_i (fun im X hX => cx_X11_lose l g cI cJ cB cZ cL kA vA x im X H.size hX (xs (nI ii + 1).toNatClampNeg) (xs (nI ii + 2).toNatClampNeg) (xs (nI ii + 3).toNatClampNeg) (xs (nI ii + 4).toNatClampNeg)) hXT) (cwV 4 hts (goodIn_app (g_4 (List.mem_cons_of_mem _ (List.mem_append_left _ (List.mem_of_getElem? (i := 332) rfl))) (List.mem_cons_of_mem _ (List.mem_append_left _ (List.mem_of_getElem? (i := 333) rfl))) (List.mem_cons_of_mem _ (List.mem_append_left _ (List.mem_of_getElem? (i := 334) rfl))) (List.mem_cons_of_mem _ (List.mem_append_left _ (List.mem_of_getElem? (i := 3) rfl))) (by decide +kernel)) (goodIn_sub ml_v_X11_lose good_v_X11_lose)) rfl rfl rfl (by decide +kernel) ⟨Nat.le_of_ble_eq_true rfl, Nat.le_of_ble_eq_true rfl⟩) (lc_pre (ci := 10) (q := (RX11, TX11, 11)) hK hE hS hA hP hD rfl (xt_mem hXT)) rfl rfl hl.1 rfl (lv_room (Nat.le_of_ble_eq_true rfl)) dL_law_2146 ⟨(by show (1000 + 2 * ii) + 0 ≤ 600000; omega), (by show (100000 + 25 * ii) + 0 ≤ 7302250; omega)⟩) hS hA hP hD (fun r2146 W1 H locs hz2146 hP hD hS => ?_)
  obtain ⟨hr2146, hW1⟩ := hz2146
  refine lv_pop hx hb dL_law_2149 rfl ?_
  refine lv_aload_n hx hb dL_law_2150 rfl (lv_at hl 2 rfl) ?_
  refine lv_aload_n hx hb dL_law_2151 rfl (lv_at hl 0 rfl) ?_
  refine lv_iload_n hx hb dL_law_2152 rfl (lv_at hl 3 rfl) ?_
  refine lv_iconst (v := 1) hx hb dL_law_2153 (by decide) ?_
  refine lv_iadd hx hb dL_law_2154 ?_
  refine va_sld hx hb hX hbl hbA hS (lw_ix 1 h6 hL (by decide)) dL_law_2155 ?_
  refine lv_topi (nm_r (e' := xs (nI ii + 1).toNatClampNeg) rfl ?_)
  refine lv_aload_n hx hb dL_law_2156 rfl (lv_at hl 0 rfl) ?_
  refine lv_iload_n hx hb dL_law_2157 rfl (lv_at hl 3 rfl) ?_
  refine lv_iconst (v := 2) hx hb dL_law_2158 (by decide) ?_
  refine lv_iadd hx hb dL_law_2159 ?_
  refine va_sld hx hb hX hbl hbA hS (lw_ix 2 h6 hL (by decide)) dL_law_2160 ?_
  refine lv_topi (nm_r (e' := xs (nI ii + 2).toNatClampNeg) rfl ?_)
  refine lv_aload_n hx hb dL_law_2161 rfl (lv_at hl 0 rfl) ?_
  refine lv_iload_n hx hb dL_law_2162 rfl (lv_at hl 3 rfl) ?_
  refine lv_iconst (v := 3) hx hb dL_law_2163 (by decide) ?_
  refine lv_iadd hx hb dL_law_2164 ?_
  refine va_sld hx hb hX hbl hbA hS (lw_ix 3 h6 hL (by decide)) dL_law_2165 ?_
  refine lv_topi (nm_r (e' := xs (nI ii + 3).toNatClampNeg) rfl ?_)
  refine lv_aload_n hx hb dL_law_2166 rfl (lv_at hl 0 rfl) ?_
  refine lv_iload_n hx hb dL_law_2167 rfl (lv_at hl 3 rfl) ?_
  refine lv_iconst (v := 4) hx hb dL_law_2168 (by decide) ?_
  refine lv_iadd hx hb dL_law_2169 ?_
  refine va_sld hx hb hX hbl hbA hS (lw_ix 4 h6 hL (by decide)) dL_law_2170 ?_
  refine lv_topi (nm_r (e' := xs (nI ii + 4).toNatClampNeg) rfl ?_)
  have hP := pm_Pp List.perm_append_comm hP
  have hD := pm_Dp List.perm_append_comm hD
  refine lc_i (X := M) (Rr := W1) (va_runV (As := [.int (xs (nI ii + 1).toNatClampNeg), .int (xs (nI ii + 2).toNatClampNeg), .int (xs (nI ii + 3).toNatClampNeg), .int (xs (nI ii + 4).toNatClampNeg)]) (rest := []) ⟨hx, hb, hml, hown, hts⟩ (cm_X12_lose l g cI cJ cB cZ cL kA vA y M H.size hM (xs (nI ii + 1).toNatClampNeg) (xs (nI ii + 2).toNatClampNeg) (xs (nI ii + 3).toNatClampNeg) (xs (nI ii + 4).toNatClampNeg)) (cwV 4 hts (goodIn_app (g_4 (List.mem_cons_of_mem _ (List.mem_append_left _ (List.mem_of_getElem? (i := 335) rfl))) (List.mem_cons_of_mem _ (List.mem_append_left _ (List.mem_of_getElem? (i := 336) rfl))) (List.mem_cons_of_mem _ (List.mem_append_left _ (List.mem_of_getElem? (i := 337) rfl))) (List.mem_cons_of_mem _ (List.mem_append_left _ (List.mem_of_getElem? (i := 7) rfl))) (by decide +kernel)) (goodIn_sub ml_v_X12_lose good_v_X12_lose)) rfl rfl rfl (by decide +kernel) ⟨Nat.le_of_ble_eq_true rfl, Nat.le_of_ble_eq_true rfl⟩) (lc_pre (ci := 11) (q := (RX12, TX12, 56)) hK hE hS hA hP hD rfl (mt_mem hM)) rfl rfl hl.1 rfl (lv_room (Nat.le_of_ble_eq_true rfl)) dL_law_2171 ⟨(by show (1000 + 2 * ii) + 0 + 0 ≤ 600000; omega), (by show (100000 + 25 * ii) + 0 + 0 ≤ 7302250; omega)⟩) hS hA hP hD (fun r2171 W2 H locs hz2171 hP hD hS => ?_)
  obtain ⟨hr2171, hW2⟩ := hz2171
  have hP := pm_Pp List.perm_append_comm hP
  have hD := pm_Dp List.perm_append_comm hD
  refine lv_pop hx hb dL_law_2174 rfl ?_
  refine lv_goto (tgt := 2459) hx hb dL_law_2175 (by decide) ?_
  refine W.widen (k := 1009 + 2 * ii) (n := 100145 + 25 * ii) (by omega) (by omega) ?_
  exact hend _ _ _ W1 W2 _ _ _ _ _ _ hW1 hW2 hJ hP hD hS hl
set_option maxHeartbeats 4000000 in
set_option maxRecDepth 100000 in
theorem lw_c56 {p : Program} {e : Env} {s : State} {m : MethodId} {below : List Frame} {meth : Method} {c : Code} (l : Launch) {sb L : Nat} {xs : Nat → Int32} (hL : L ≤ 3072) (C0 : lw_At p s m meth c sb L xs) {g : va_G} {cI cJ cB cZ cL : ClassId} (hK : va_K g vwCl (tyT cI cJ cB cZ cL) s) {kA vA : Nat → Nat} (hE : ENV kA vA (fun q : Nat => s.heap.size ≤ q) s) {x y : Nat} {ii : Nat} (h6 : ii + 6 ≤ L) (hend : ∀ (H : Heap) (locs : List Loc) (ls : Array Slot) (XT M : va_W) (sw sn ki mw mn kp : Nat → Int32) (hXT : XTSt cI cJ cB cZ cL x sw sn ki XT) (hM : MSt cI cJ cB cZ cL y mw mn kp M) (hJ : JJ sw sn ki mw mn kp) (hP : va_P g vwCl (XT ++ M) H) (hD : va_D (fun q : Nat => s.heap.size ≤ q) (XT ++ M)) (hS : va_S (fun q : Nat => s.heap.size ≤ q) s.heap H locs) (hl : lv_has ls 4 [(0, .ref sb), (1, .ref x), (2, .ref y), (3, .int (nI ii))]), W p l e room_1 s m #[Value.ref sb] below meth c H locs (1009 + 2 * ii) (100145 + 25 * ii) (lw_Z below #[Value.ref sb] s) (F0 m 2459 ls [])) (H : Heap) (locs : List Loc) (ls : Array Slot) (XT M : va_W) (sw sn ki mw mn kp : Nat → Int32) (hXT : XTSt cI cJ cB cZ cL x sw sn ki XT) (hM : MSt cI cJ cB cZ cL y mw mn kp M) (hJ : JJ sw sn ki mw mn kp) (hP : va_P g vwCl (XT ++ M) H) (hD : va_D (fun q : Nat => s.heap.size ≤ q) (XT ++ M)) (hS : va_S (fun q : Nat => s.heap.size ≤ q) s.heap H locs) (hl : lv_has ls 4 [(0, .ref sb), (1, .ref x), (2, .ref y), (3, .int (nI ii))]) : W p l e room_1 s m #[Value.ref sb] below meth c H locs (1000 + 2 * ii) (100000 + 25 * ii) (lw_Z below #[Value.ref sb] s) (F0 m 2178 ls []) := by
  obtain ⟨hx, hb, hr, hml, hown, hts0, hX, hbl, hlocks, hgv⟩ := id C0
  have hts : ∀ w ∈ v_L_law, w.before #[Value.ref sb] s = true := fun w h => hts0 w (in_v_L_law w h)
  have hown : s.vm.findClass RL = some m.cls := hown
  have hA : ∀ q : Nat, s.heap.size ≤ q → (fun q : Nat => s.heap.size ≤ q) q := fun _ h => h
  have hbA : ¬ (fun q : Nat => s.heap.size ≤ q) sb := Nat.not_le.mpr hbl
  refine lv_aload_n hx hb dL_law_2178 rfl (lv_at hl 1 rfl) ?_
  refine lv_aload_n hx hb dL_law_2179 rfl (lv_at hl 0 rfl) ?_
  refine lv_iload_n hx hb dL_law_2180 rfl (lv_at hl 3 rfl) ?_
  refine lv_iconst (v := 1) hx hb dL_law_2181 (by decide) ?_
  refine lv_iadd hx hb dL_law_2182 ?_
  refine va_sld hx hb hX hbl hbA hS (lw_ix 1 h6 hL (by decide)) dL_law_2183 ?_
  refine lv_topi (nm_r (e' := xs (nI ii + 1).toNatClampNeg) rfl ?_)
  refine lv_aload_n hx hb dL_law_2184 rfl (lv_at hl 0 rfl) ?_
  refine lv_iload_n hx hb dL_law_2185 rfl (lv_at hl 3 rfl) ?_
  refine lv_iconst (v := 2) hx hb dL_law_2186 (by decide) ?_
  refine lv_iadd hx hb dL_law_2187 ?_
  refine va_sld hx hb hX hbl hbA hS (lw_ix 2 h6 hL (by decide)) dL_law_2188 ?_
  refine lv_topi (nm_r (e' := xs (nI ii + 2).toNatClampNeg) rfl ?_)
  refine lc_i (X := XT) (Rr := M) (va_runV (As := [.int (xs (nI ii + 1).toNatClampNeg), .int (xs (nI ii + 2).toNatClampNeg)]) (rest := []) ⟨hx, hb, hml, hown, hts⟩ (lift_i (fun im X hX => cx_X11_calls l g cI cJ cB cZ cL kA vA x im X H.size hX (xs (nI ii + 1).toNatClampNeg) (xs (nI ii + 2).toNatClampNeg)) hXT) (cwV 2 hts (goodIn_app (g_4 (List.mem_cons_of_mem _ (List.mem_append_left _ (List.mem_of_getElem? (i := 338) rfl))) (List.mem_cons_of_mem _ (List.mem_append_left _ (List.mem_of_getElem? (i := 339) rfl))) (List.mem_cons_of_mem _ (List.mem_append_left _ (List.mem_of_getElem? (i := 340) rfl))) (List.mem_cons_of_mem _ (List.mem_append_left _ (List.mem_of_getElem? (i := 3) rfl))) (by decide +kernel)) (goodIn_sub ml_v_X11_calls good_v_X11_calls)) rfl rfl rfl (by decide +kernel) ⟨Nat.le_of_ble_eq_true rfl, Nat.le_of_ble_eq_true rfl⟩) (lc_pre (ci := 10) (q := (RX11, TX11, 11)) hK hE hS hA hP hD rfl (xt_mem hXT)) rfl rfl hl.1 rfl (lv_room (Nat.le_of_ble_eq_true rfl)) dL_law_2189 ⟨(by show (1000 + 2 * ii) + 0 ≤ 600000; omega), (by show (100000 + 25 * ii) + 0 ≤ 7302250; omega)⟩) hS hA hP hD (fun r2189 W1 H locs hz2189 hP hD hS => ?_)
  obtain ⟨hr2189, hW1⟩ := hz2189
  refine lv_pop hx hb dL_law_2192 rfl ?_
  refine lv_aload_n hx hb dL_law_2193 rfl (lv_at hl 2 rfl) ?_
  refine lv_aload_n hx hb dL_law_2194 rfl (lv_at hl 0 rfl) ?_
  refine lv_iload_n hx hb dL_law_2195 rfl (lv_at hl 3 rfl) ?_
  refine lv_iconst (v := 1) hx hb dL_law_2196 (by decide) ?_
  refine lv_iadd hx hb dL_law_2197 ?_
  refine va_sld hx hb hX hbl hbA hS (lw_ix 1 h6 hL (by decide)) dL_law_2198 ?_
  refine lv_topi (nm_r (e' := xs (nI ii + 1).toNatClampNeg) rfl ?_)
  refine lv_aload_n hx hb dL_law_2199 rfl (lv_at hl 0 rfl) ?_
  refine lv_iload_n hx hb dL_law_2200 rfl (lv_at hl 3 rfl) ?_
  refine lv_iconst (v := 2) hx hb dL_law_2201 (by decide) ?_
  refine lv_iadd hx hb dL_law_2202 ?_
  refine va_sld hx hb hX hbl hbA hS (lw_ix 2 h6 hL (by decide)) dL_law_2203 ?_
  refine lv_topi (nm_r (e' := xs (nI ii + 2).toNatClampNeg) rfl ?_)
  have hP := pm_Pp List.perm_append_comm hP
  have hD := pm_Dp List.perm_append_comm hD
  refine lc_i (X := M) (Rr := W1) (va_runV (As := [.int (xs (nI ii + 1).toNatClampNeg), .int (xs (nI ii + 2).toNatClampNeg)]) (rest := []) ⟨hx, hb, hml, hown, hts⟩ (cm_X12_calls l g cI cJ cB cZ cL kA vA y M H.size hM (xs (nI ii + 1).toNatClampNeg) (xs (nI ii + 2).toNatClampNeg)) (cwV 2 hts (goodIn_app (g_4 (List.mem_cons_of_mem _ (List.mem_append_left _ (List.mem_of_getElem? (i := 341) rfl))) (List.mem_cons_of_mem _ (List.mem_append_left _ (List.mem_of_getElem? (i := 342) rfl))) (List.mem_cons_of_mem _ (List.mem_append_left _ (List.mem_of_getElem? (i := 343) rfl))) (List.mem_cons_of_mem _ (List.mem_append_left _ (List.mem_of_getElem? (i := 7) rfl))) (by decide +kernel)) (goodIn_sub ml_v_X12_calls good_v_X12_calls)) rfl rfl rfl (by decide +kernel) ⟨Nat.le_of_ble_eq_true rfl, Nat.le_of_ble_eq_true rfl⟩) (lc_pre (ci := 11) (q := (RX12, TX12, 56)) hK hE hS hA hP hD rfl (mt_mem hM)) rfl rfl hl.1 rfl (lv_room (Nat.le_of_ble_eq_true rfl)) dL_law_2204 ⟨(by show (1000 + 2 * ii) + 0 + 0 ≤ 600000; omega), (by show (100000 + 25 * ii) + 0 + 0 ≤ 7302250; omega)⟩) hS hA hP hD (fun r2204 W2 H locs hz2204 hP hD hS => ?_)
  obtain ⟨hr2204, hW2⟩ := hz2204
  have hP := pm_Pp List.perm_append_comm hP
  have hD := pm_Dp List.perm_append_comm hD
  refine lv_pop hx hb dL_law_2207 rfl ?_
  refine lv_goto (tgt := 2459) hx hb dL_law_2208 (by decide) ?_
  refine W.widen (k := 1009 + 2 * ii) (n := 100145 + 25 * ii) (by omega) (by omega) ?_
  exact hend _ _ _ W1 W2 _ _ _ _ _ _ hW1 hW2 hJ hP hD hS hl
set_option maxHeartbeats 4000000 in
set_option maxRecDepth 100000 in
theorem lw_c57 {p : Program} {e : Env} {s : State} {m : MethodId} {below : List Frame} {meth : Method} {c : Code} (l : Launch) {sb L : Nat} {xs : Nat → Int32} (hL : L ≤ 3072) (C0 : lw_At p s m meth c sb L xs) {g : va_G} {cI cJ cB cZ cL : ClassId} (hK : va_K g vwCl (tyT cI cJ cB cZ cL) s) {kA vA : Nat → Nat} (hE : ENV kA vA (fun q : Nat => s.heap.size ≤ q) s) {x y : Nat} {ii : Nat} (h6 : ii + 6 ≤ L) (hend : ∀ (H : Heap) (locs : List Loc) (ls : Array Slot) (XT M : va_W) (sw sn ki mw mn kp : Nat → Int32) (hXT : XTSt cI cJ cB cZ cL x sw sn ki XT) (hM : MSt cI cJ cB cZ cL y mw mn kp M) (hJ : JJ sw sn ki mw mn kp) (hP : va_P g vwCl (XT ++ M) H) (hD : va_D (fun q : Nat => s.heap.size ≤ q) (XT ++ M)) (hS : va_S (fun q : Nat => s.heap.size ≤ q) s.heap H locs) (hl : lv_has ls 4 [(0, .ref sb), (1, .ref x), (2, .ref y), (3, .int (nI ii))]), W p l e room_1 s m #[Value.ref sb] below meth c H locs (1009 + 2 * ii) (100145 + 25 * ii) (lw_Z below #[Value.ref sb] s) (F0 m 2459 ls [])) (H : Heap) (locs : List Loc) (ls : Array Slot) (XT M : va_W) (sw sn ki mw mn kp : Nat → Int32) (hXT : XTSt cI cJ cB cZ cL x sw sn ki XT) (hM : MSt cI cJ cB cZ cL y mw mn kp M) (hJ : JJ sw sn ki mw mn kp) (hP : va_P g vwCl (XT ++ M) H) (hD : va_D (fun q : Nat => s.heap.size ≤ q) (XT ++ M)) (hS : va_S (fun q : Nat => s.heap.size ≤ q) s.heap H locs) (hl : lv_has ls 4 [(0, .ref sb), (1, .ref x), (2, .ref y), (3, .int (nI ii))]) : W p l e room_1 s m #[Value.ref sb] below meth c H locs (1000 + 2 * ii) (100000 + 25 * ii) (lw_Z below #[Value.ref sb] s) (F0 m 2211 ls []) := by
  obtain ⟨hx, hb, hr, hml, hown, hts0, hX, hbl, hlocks, hgv⟩ := id C0
  have hts : ∀ w ∈ v_L_law, w.before #[Value.ref sb] s = true := fun w h => hts0 w (in_v_L_law w h)
  have hown : s.vm.findClass RL = some m.cls := hown
  have hA : ∀ q : Nat, s.heap.size ≤ q → (fun q : Nat => s.heap.size ≤ q) q := fun _ h => h
  have hbA : ¬ (fun q : Nat => s.heap.size ≤ q) sb := Nat.not_le.mpr hbl
  refine lv_aload_n hx hb dL_law_2211 rfl (lv_at hl 1 rfl) ?_
  refine lv_aload_n hx hb dL_law_2212 rfl (lv_at hl 0 rfl) ?_
  refine lv_iload_n hx hb dL_law_2213 rfl (lv_at hl 3 rfl) ?_
  refine lv_iconst (v := 1) hx hb dL_law_2214 (by decide) ?_
  refine lv_iadd hx hb dL_law_2215 ?_
  refine va_sld hx hb hX hbl hbA hS (lw_ix 1 h6 hL (by decide)) dL_law_2216 ?_
  refine lv_topi (nm_r (e' := xs (nI ii + 1).toNatClampNeg) rfl ?_)
  refine lc_i (X := XT) (Rr := M) (va_runV (As := [.int (xs (nI ii + 1).toNatClampNeg)]) (rest := []) ⟨hx, hb, hml, hown, hts⟩ (lift_i (fun im X hX => cx_X11_count l g cI cJ cB cZ cL kA vA x im X H.size hX (xs (nI ii + 1).toNatClampNeg)) hXT) (cwV 1 hts (goodIn_app (g_4 (List.mem_cons_of_mem _ (List.mem_append_left _ (List.mem_of_getElem? (i := 344) rfl))) (List.mem_cons_of_mem _ (List.mem_append_left _ (List.mem_of_getElem? (i := 345) rfl))) (List.mem_cons_of_mem _ (List.mem_append_left _ (List.mem_of_getElem? (i := 346) rfl))) (List.mem_cons_of_mem _ (List.mem_append_left _ (List.mem_of_getElem? (i := 3) rfl))) (by decide +kernel)) (goodIn_sub ml_v_X11_count good_v_X11_count)) rfl rfl rfl (by decide +kernel) ⟨Nat.le_of_ble_eq_true rfl, Nat.le_of_ble_eq_true rfl⟩) (lc_pre (ci := 10) (q := (RX11, TX11, 11)) hK hE hS hA hP hD rfl (xt_mem hXT)) rfl rfl hl.1 rfl (lv_room (Nat.le_of_ble_eq_true rfl)) dL_law_2217 ⟨(by show (1000 + 2 * ii) + 0 ≤ 600000; omega), (by show (100000 + 25 * ii) + 0 ≤ 7302250; omega)⟩) hS hA hP hD (fun r2217 W1 H locs hz2217 hP hD hS => ?_)
  obtain ⟨hr2217, hW1⟩ := hz2217
  refine lv_pop hx hb dL_law_2220 rfl ?_
  refine lv_aload_n hx hb dL_law_2221 rfl (lv_at hl 2 rfl) ?_
  refine lv_aload_n hx hb dL_law_2222 rfl (lv_at hl 0 rfl) ?_
  refine lv_iload_n hx hb dL_law_2223 rfl (lv_at hl 3 rfl) ?_
  refine lv_iconst (v := 1) hx hb dL_law_2224 (by decide) ?_
  refine lv_iadd hx hb dL_law_2225 ?_
  refine va_sld hx hb hX hbl hbA hS (lw_ix 1 h6 hL (by decide)) dL_law_2226 ?_
  refine lv_topi (nm_r (e' := xs (nI ii + 1).toNatClampNeg) rfl ?_)
  have hP := pm_Pp List.perm_append_comm hP
  have hD := pm_Dp List.perm_append_comm hD
  refine lc_i (X := M) (Rr := W1) (va_runV (As := [.int (xs (nI ii + 1).toNatClampNeg)]) (rest := []) ⟨hx, hb, hml, hown, hts⟩ (cm_X12_count l g cI cJ cB cZ cL kA vA y M H.size hM (xs (nI ii + 1).toNatClampNeg)) (cwV 1 hts (goodIn_app (g_4 (List.mem_cons_of_mem _ (List.mem_append_left _ (List.mem_of_getElem? (i := 347) rfl))) (List.mem_cons_of_mem _ (List.mem_append_left _ (List.mem_of_getElem? (i := 348) rfl))) (List.mem_cons_of_mem _ (List.mem_append_left _ (List.mem_of_getElem? (i := 349) rfl))) (List.mem_cons_of_mem _ (List.mem_append_left _ (List.mem_of_getElem? (i := 7) rfl))) (by decide +kernel)) (goodIn_sub ml_v_X12_count good_v_X12_count)) rfl rfl rfl (by decide +kernel) ⟨Nat.le_of_ble_eq_true rfl, Nat.le_of_ble_eq_true rfl⟩) (lc_pre (ci := 11) (q := (RX12, TX12, 56)) hK hE hS hA hP hD rfl (mt_mem hM)) rfl rfl hl.1 rfl (lv_room (Nat.le_of_ble_eq_true rfl)) dL_law_2227 ⟨(by show (1000 + 2 * ii) + 0 + 0 ≤ 600000; omega), (by show (100000 + 25 * ii) + 0 + 0 ≤ 7302250; omega)⟩) hS hA hP hD (fun r2227 W2 H locs hz2227 hP hD hS => ?_)
  obtain ⟨hr2227, hW2⟩ := hz2227
  have hP := pm_Pp List.perm_append_comm hP
  have hD := pm_Dp List.perm_append_comm hD
  refine lv_pop hx hb dL_law_2230 rfl ?_
  refine lv_goto (tgt := 2459) hx hb dL_law_2231 (by decide) ?_
  refine W.widen (k := 1009 + 2 * ii) (n := 100145 + 25 * ii) (by omega) (by omega) ?_
  exact hend _ _ _ W1 W2 _ _ _ _ _ _ hW1 hW2 hJ hP hD hS hl
set_option maxHeartbeats 4000000 in
set_option maxRecDepth 100000 in
theorem lw_c58 {p : Program} {e : Env} {s : State} {m : MethodId} {below : List Frame} {meth : Method} {c : Code} (l : Launch) {sb L : Nat} {xs : Nat → Int32} (hL : L ≤ 3072) (C0 : lw_At p s m meth c sb L xs) {g : va_G} {cI cJ cB cZ cL : ClassId} (hK : va_K g vwCl (tyT cI cJ cB cZ cL) s) {kA vA : Nat → Nat} (hE : ENV kA vA (fun q : Nat => s.heap.size ≤ q) s) {x y : Nat} {ii : Nat} (h6 : ii + 6 ≤ L) (hend : ∀ (H : Heap) (locs : List Loc) (ls : Array Slot) (XT M : va_W) (sw sn ki mw mn kp : Nat → Int32) (hXT : XTSt cI cJ cB cZ cL x sw sn ki XT) (hM : MSt cI cJ cB cZ cL y mw mn kp M) (hJ : JJ sw sn ki mw mn kp) (hP : va_P g vwCl (XT ++ M) H) (hD : va_D (fun q : Nat => s.heap.size ≤ q) (XT ++ M)) (hS : va_S (fun q : Nat => s.heap.size ≤ q) s.heap H locs) (hl : lv_has ls 4 [(0, .ref sb), (1, .ref x), (2, .ref y), (3, .int (nI ii))]), W p l e room_1 s m #[Value.ref sb] below meth c H locs (1009 + 2 * ii) (100145 + 25 * ii) (lw_Z below #[Value.ref sb] s) (F0 m 2459 ls [])) (H : Heap) (locs : List Loc) (ls : Array Slot) (XT M : va_W) (sw sn ki mw mn kp : Nat → Int32) (hXT : XTSt cI cJ cB cZ cL x sw sn ki XT) (hM : MSt cI cJ cB cZ cL y mw mn kp M) (hJ : JJ sw sn ki mw mn kp) (hP : va_P g vwCl (XT ++ M) H) (hD : va_D (fun q : Nat => s.heap.size ≤ q) (XT ++ M)) (hS : va_S (fun q : Nat => s.heap.size ≤ q) s.heap H locs) (hl : lv_has ls 4 [(0, .ref sb), (1, .ref x), (2, .ref y), (3, .int (nI ii))]) : W p l e room_1 s m #[Value.ref sb] below meth c H locs (1000 + 2 * ii) (100000 + 25 * ii) (lw_Z below #[Value.ref sb] s) (F0 m 2234 ls []) := by
  obtain ⟨hx, hb, hr, hml, hown, hts0, hX, hbl, hlocks, hgv⟩ := id C0
  have hts : ∀ w ∈ v_L_law, w.before #[Value.ref sb] s = true := fun w h => hts0 w (in_v_L_law w h)
  have hown : s.vm.findClass RL = some m.cls := hown
  have hA : ∀ q : Nat, s.heap.size ≤ q → (fun q : Nat => s.heap.size ≤ q) q := fun _ h => h
  have hbA : ¬ (fun q : Nat => s.heap.size ≤ q) sb := Nat.not_le.mpr hbl
  refine lv_aload_n hx hb dL_law_2234 rfl (lv_at hl 1 rfl) ?_
  refine lv_aload_n hx hb dL_law_2235 rfl (lv_at hl 0 rfl) ?_
  refine lv_iload_n hx hb dL_law_2236 rfl (lv_at hl 3 rfl) ?_
  refine lv_iconst (v := 1) hx hb dL_law_2237 (by decide) ?_
  refine lv_iadd hx hb dL_law_2238 ?_
  refine va_sld hx hb hX hbl hbA hS (lw_ix 1 h6 hL (by decide)) dL_law_2239 ?_
  refine lv_topi (nm_r (e' := xs (nI ii + 1).toNatClampNeg) rfl ?_)
  generalize hpv : (xs (nI ii + 1).toNatClampNeg) = pv
  by_cases hout : 0 ≤ pv.toInt ∧ pv.toInt < 3
  · obtain ⟨jk, ejk, hj0, rfl⟩ := nat_i (x := pv) (l := 0) (h := 2) rfl ⟨hout.1, by omega⟩ (by decide)
    have hjk : jk < 3 := by omega
    have hXT9 := hXT
    obtain ⟨im, X9, A9, B9, D9, fo, hp9, hX9, hA9, hB9, hD9, hki9⟩ := hXT9
    cases hfo : fo jk with
    | none =>
      refine lc_i (X := XT) (Rr := M) (va_runV (As := [.int (nI jk)]) (rest := []) ⟨hx, hb, hml, hown, hts⟩ (ci_keepN l g cI cJ cB cZ cL kA vA x XT H.size jk hjk im X9 A9 B9 D9 fo hp9 hX9 hA9 hB9 hD9 hfo hki9) (cwV 1 hts (goodIn_app (g_4 (List.mem_cons_of_mem _ (List.mem_append_left _ (List.mem_of_getElem? (i := 350) rfl))) (List.mem_cons_of_mem _ (List.mem_append_left _ (List.mem_of_getElem? (i := 351) rfl))) (List.mem_cons_of_mem _ (List.mem_append_left _ (List.mem_of_getElem? (i := 352) rfl))) (List.mem_cons_of_mem _ (List.mem_append_left _ (List.mem_of_getElem? (i := 3) rfl))) (by decide +kernel)) (goodIn_sub ml_v_fX11_keepN good_v_fX11_keepN)) rfl rfl rfl (by decide +kernel) ⟨Nat.le_of_ble_eq_true rfl, Nat.le_of_ble_eq_true rfl⟩) (lc_pre (ci := 10) (q := (RX11, TX11, 11)) hK hE hS hA hP hD rfl (xt_mem hXT)) rfl rfl hl.1 rfl (lv_room (Nat.le_of_ble_eq_true rfl)) dL_law_2240 ⟨(by show (1000 + 2 * ii) + 9 ≤ 600000; omega), (by show (100000 + 25 * ii) + 145 ≤ 7302250; omega)⟩) hS hA hP hD (fun r2240 W9 H locs hz2240 hP hD hS => ?_)
      obtain ⟨hr2240, hW9⟩ := hz2240
      refine lv_pop hx hb dL_law_2243 rfl ?_
      refine lv_aload_n hx hb dL_law_2244 rfl (lv_at hl 2 rfl) ?_
      refine lv_aload_n hx hb dL_law_2245 rfl (lv_at hl 0 rfl) ?_
      refine lv_iload_n hx hb dL_law_2246 rfl (lv_at hl 3 rfl) ?_
      refine lv_iconst (v := 1) hx hb dL_law_2247 (by decide) ?_
      refine lv_iadd hx hb dL_law_2248 ?_
      refine va_sld hx hb hX hbl hbA hS (lw_ix 1 h6 hL (by decide)) dL_law_2249 ?_
      refine lv_topi (nm_r (e' := xs (nI ii + 1).toNatClampNeg) rfl ?_)
      have hP := pm_Pp List.perm_append_comm hP
      have hD := pm_Dp List.perm_append_comm hD
      refine lc_i (X := M) (Rr := W9) (va_runV (As := [.int (xs (nI ii + 1).toNatClampNeg)]) (rest := []) ⟨hx, hb, hml, hown, hts⟩ (cm_X12_keep l g cI cJ cB cZ cL kA vA y M H.size hM (xs (nI ii + 1).toNatClampNeg)) (cwV 1 hts (goodIn_app (g_4 (List.mem_cons_of_mem _ (List.mem_append_left _ (List.mem_of_getElem? (i := 353) rfl))) (List.mem_cons_of_mem _ (List.mem_append_left _ (List.mem_of_getElem? (i := 354) rfl))) (List.mem_cons_of_mem _ (List.mem_append_left _ (List.mem_of_getElem? (i := 355) rfl))) (List.mem_cons_of_mem _ (List.mem_append_left _ (List.mem_of_getElem? (i := 7) rfl))) (by decide +kernel)) (goodIn_sub ml_v_X12_keepF good_v_X12_keepF)) rfl rfl rfl (by decide +kernel) ⟨Nat.le_of_ble_eq_true rfl, Nat.le_of_ble_eq_true rfl⟩) (lc_pre (ci := 11) (q := (RX12, TX12, 56)) hK hE hS hA hP hD rfl (mt_mem hM)) rfl rfl hl.1 rfl (lv_room (Nat.le_of_ble_eq_true rfl)) dL_law_2250 ⟨(by show (1000 + 2 * ii) + 9 + 0 ≤ 600000; omega), (by show (100000 + 25 * ii) + 145 + 0 ≤ 7302250; omega)⟩) hS hA hP hD (fun r2250 W1 H locs hz2250 hP hD hS => ?_)
      obtain ⟨hr2250, hW1⟩ := hz2250
      have hP := pm_Pp List.perm_append_comm hP
      have hD := pm_Dp List.perm_append_comm hD
      refine lv_pop hx hb dL_law_2253 rfl ?_
      refine lv_goto (tgt := 2459) hx hb dL_law_2254 (by decide) ?_
      refine W.widen (k := 1009 + 2 * ii) (n := 100145 + 25 * ii) (by omega) (by omega) ?_
      exact hend _ _ _ W9 W1 _ _ _ _ _ _ hW9 hW1 (JJ_keep hJ hjk hpv) hP hD hS hl
    | some ig =>
      refine lc_i (X := XT) (Rr := M) (va_runV (As := [.int (nI jk)]) (rest := []) ⟨hx, hb, hml, hown, hts⟩ (ci_keepE l g cI cJ cB cZ cL kA vA x XT H.size jk hjk im X9 A9 B9 D9 fo hp9 hX9 hA9 hB9 hD9 (by rw [hfo]; exact Option.some_ne_none _) hki9) (cwV 1 hts (goodIn_app (g_4 (List.mem_cons_of_mem _ (List.mem_append_left _ (List.mem_of_getElem? (i := 350) rfl))) (List.mem_cons_of_mem _ (List.mem_append_left _ (List.mem_of_getElem? (i := 351) rfl))) (List.mem_cons_of_mem _ (List.mem_append_left _ (List.mem_of_getElem? (i := 352) rfl))) (List.mem_cons_of_mem _ (List.mem_append_left _ (List.mem_of_getElem? (i := 3) rfl))) (by decide +kernel)) (goodIn_sub ml_v_fX11_keepE good_v_fX11_keepE)) rfl rfl rfl (by decide +kernel) ⟨Nat.le_of_ble_eq_true rfl, Nat.le_of_ble_eq_true rfl⟩) (lc_pre (ci := 10) (q := (RX11, TX11, 11)) hK hE hS hA hP hD rfl (xt_mem hXT)) rfl rfl hl.1 rfl (lv_room (Nat.le_of_ble_eq_true rfl)) dL_law_2240 ⟨(by show (1000 + 2 * ii) + 0 ≤ 600000; omega), (by show (100000 + 25 * ii) + 0 ≤ 7302250; omega)⟩) hS hA hP hD (fun r2240 W9 H locs hz2240 hP hD hS => ?_)
      obtain ⟨hr2240, hW9⟩ := hz2240
      refine lv_pop hx hb dL_law_2243 rfl ?_
      refine lv_aload_n hx hb dL_law_2244 rfl (lv_at hl 2 rfl) ?_
      refine lv_aload_n hx hb dL_law_2245 rfl (lv_at hl 0 rfl) ?_
      refine lv_iload_n hx hb dL_law_2246 rfl (lv_at hl 3 rfl) ?_
      refine lv_iconst (v := 1) hx hb dL_law_2247 (by decide) ?_
      refine lv_iadd hx hb dL_law_2248 ?_
      refine va_sld hx hb hX hbl hbA hS (lw_ix 1 h6 hL (by decide)) dL_law_2249 ?_
      refine lv_topi (nm_r (e' := xs (nI ii + 1).toNatClampNeg) rfl ?_)
      have hP := pm_Pp List.perm_append_comm hP
      have hD := pm_Dp List.perm_append_comm hD
      refine lc_i (X := M) (Rr := W9) (va_runV (As := [.int (xs (nI ii + 1).toNatClampNeg)]) (rest := []) ⟨hx, hb, hml, hown, hts⟩ (cm_X12_keep l g cI cJ cB cZ cL kA vA y M H.size hM (xs (nI ii + 1).toNatClampNeg)) (cwV 1 hts (goodIn_app (g_4 (List.mem_cons_of_mem _ (List.mem_append_left _ (List.mem_of_getElem? (i := 353) rfl))) (List.mem_cons_of_mem _ (List.mem_append_left _ (List.mem_of_getElem? (i := 354) rfl))) (List.mem_cons_of_mem _ (List.mem_append_left _ (List.mem_of_getElem? (i := 355) rfl))) (List.mem_cons_of_mem _ (List.mem_append_left _ (List.mem_of_getElem? (i := 7) rfl))) (by decide +kernel)) (goodIn_sub ml_v_X12_keepF good_v_X12_keepF)) rfl rfl rfl (by decide +kernel) ⟨Nat.le_of_ble_eq_true rfl, Nat.le_of_ble_eq_true rfl⟩) (lc_pre (ci := 11) (q := (RX12, TX12, 56)) hK hE hS hA hP hD rfl (mt_mem hM)) rfl rfl hl.1 rfl (lv_room (Nat.le_of_ble_eq_true rfl)) dL_law_2250 ⟨(by show (1000 + 2 * ii) + 0 + 0 ≤ 600000; omega), (by show (100000 + 25 * ii) + 0 + 0 ≤ 7302250; omega)⟩) hS hA hP hD (fun r2250 W1 H locs hz2250 hP hD hS => ?_)
      obtain ⟨hr2250, hW1⟩ := hz2250
      have hP := pm_Pp List.perm_append_comm hP
      have hD := pm_Dp List.perm_append_comm hD
      refine lv_pop hx hb dL_law_2253 rfl ?_
      refine lv_goto (tgt := 2459) hx hb dL_law_2254 (by decide) ?_
      refine W.widen (k := 1009 + 2 * ii) (n := 100145 + 25 * ii) (by omega) (by omega) ?_
      exact hend _ _ _ W9 W1 _ _ _ _ _ _ hW9 hW1 (JJ_keep hJ hjk hpv) hP hD hS hl
  · refine lc_i (X := XT) (Rr := M) (va_runV (As := [.int pv]) (rest := []) ⟨hx, hb, hml, hown, hts⟩ (ci_keepO l g cI cJ cB cZ cL kA vA x XT H.size hXT pv hout) (cwV 1 hts (goodIn_app (g_4 (List.mem_cons_of_mem _ (List.mem_append_left _ (List.mem_of_getElem? (i := 350) rfl))) (List.mem_cons_of_mem _ (List.mem_append_left _ (List.mem_of_getElem? (i := 351) rfl))) (List.mem_cons_of_mem _ (List.mem_append_left _ (List.mem_of_getElem? (i := 352) rfl))) (List.mem_cons_of_mem _ (List.mem_append_left _ (List.mem_of_getElem? (i := 3) rfl))) (by decide +kernel)) (goodIn_sub ml_v_fX11_keepO good_v_fX11_keepO)) rfl rfl rfl (by decide +kernel) ⟨Nat.le_of_ble_eq_true rfl, Nat.le_of_ble_eq_true rfl⟩) (lc_pre (ci := 10) (q := (RX11, TX11, 11)) hK hE hS hA hP hD rfl (xt_mem hXT)) rfl rfl hl.1 rfl (lv_room (Nat.le_of_ble_eq_true rfl)) dL_law_2240 ⟨(by show (1000 + 2 * ii) + 0 ≤ 600000; omega), (by show (100000 + 25 * ii) + 0 ≤ 7302250; omega)⟩) hS hA hP hD (fun r2240 W9 H locs hz2240 hP hD hS => ?_)
    obtain ⟨hr2240, hW9⟩ := hz2240
    refine lv_pop hx hb dL_law_2243 rfl ?_
    refine lv_aload_n hx hb dL_law_2244 rfl (lv_at hl 2 rfl) ?_
    refine lv_aload_n hx hb dL_law_2245 rfl (lv_at hl 0 rfl) ?_
    refine lv_iload_n hx hb dL_law_2246 rfl (lv_at hl 3 rfl) ?_
    refine lv_iconst (v := 1) hx hb dL_law_2247 (by decide) ?_
    refine lv_iadd hx hb dL_law_2248 ?_
    refine va_sld hx hb hX hbl hbA hS (lw_ix 1 h6 hL (by decide)) dL_law_2249 ?_
    refine lv_topi (nm_r (e' := xs (nI ii + 1).toNatClampNeg) rfl ?_)
    have hP := pm_Pp List.perm_append_comm hP
    have hD := pm_Dp List.perm_append_comm hD
    refine lc_i (X := M) (Rr := W9) (va_runV (As := [.int (xs (nI ii + 1).toNatClampNeg)]) (rest := []) ⟨hx, hb, hml, hown, hts⟩ (cm_X12_keep l g cI cJ cB cZ cL kA vA y M H.size hM (xs (nI ii + 1).toNatClampNeg)) (cwV 1 hts (goodIn_app (g_4 (List.mem_cons_of_mem _ (List.mem_append_left _ (List.mem_of_getElem? (i := 353) rfl))) (List.mem_cons_of_mem _ (List.mem_append_left _ (List.mem_of_getElem? (i := 354) rfl))) (List.mem_cons_of_mem _ (List.mem_append_left _ (List.mem_of_getElem? (i := 355) rfl))) (List.mem_cons_of_mem _ (List.mem_append_left _ (List.mem_of_getElem? (i := 7) rfl))) (by decide +kernel)) (goodIn_sub ml_v_X12_keepF good_v_X12_keepF)) rfl rfl rfl (by decide +kernel) ⟨Nat.le_of_ble_eq_true rfl, Nat.le_of_ble_eq_true rfl⟩) (lc_pre (ci := 11) (q := (RX12, TX12, 56)) hK hE hS hA hP hD rfl (mt_mem hM)) rfl rfl hl.1 rfl (lv_room (Nat.le_of_ble_eq_true rfl)) dL_law_2250 ⟨(by show (1000 + 2 * ii) + 0 + 0 ≤ 600000; omega), (by show (100000 + 25 * ii) + 0 + 0 ≤ 7302250; omega)⟩) hS hA hP hD (fun r2250 W1 H locs hz2250 hP hD hS => ?_)
    obtain ⟨hr2250, hW1⟩ := hz2250
    have hP := pm_Pp List.perm_append_comm hP
    have hD := pm_Dp List.perm_append_comm hD
    refine lv_pop hx hb dL_law_2253 rfl ?_
    refine lv_goto (tgt := 2459) hx hb dL_law_2254 (by decide) ?_
    refine W.widen (k := 1009 + 2 * ii) (n := 100145 + 25 * ii) (by omega) (by omega) ?_
    exact hend _ _ _ W9 W1 _ _ _ _ _ _ hW9 hW1 (JJ_keepO hJ hpv hout) hP hD hS hl
set_option maxHeartbeats 4000000 in
set_option maxRecDepth 100000 in
theorem lw_c59 {p : Program} {e : Env} {s : State} {m : MethodId} {below : List Frame} {meth : Method} {c : Code} (l : Launch) {sb L : Nat} {xs : Nat → Int32} (hL : L ≤ 3072) (C0 : lw_At p s m meth c sb L xs) {g : va_G} {cI cJ cB cZ cL : ClassId} (hK : va_K g vwCl (tyT cI cJ cB cZ cL) s) {kA vA : Nat → Nat} (hE : ENV kA vA (fun q : Nat => s.heap.size ≤ q) s) {x y : Nat} {ii : Nat} (h6 : ii + 6 ≤ L) (hend : ∀ (H : Heap) (locs : List Loc) (ls : Array Slot) (XT M : va_W) (sw sn ki mw mn kp : Nat → Int32) (hXT : XTSt cI cJ cB cZ cL x sw sn ki XT) (hM : MSt cI cJ cB cZ cL y mw mn kp M) (hJ : JJ sw sn ki mw mn kp) (hP : va_P g vwCl (XT ++ M) H) (hD : va_D (fun q : Nat => s.heap.size ≤ q) (XT ++ M)) (hS : va_S (fun q : Nat => s.heap.size ≤ q) s.heap H locs) (hl : lv_has ls 4 [(0, .ref sb), (1, .ref x), (2, .ref y), (3, .int (nI ii))]), W p l e room_1 s m #[Value.ref sb] below meth c H locs (1009 + 2 * ii) (100145 + 25 * ii) (lw_Z below #[Value.ref sb] s) (F0 m 2459 ls [])) (H : Heap) (locs : List Loc) (ls : Array Slot) (XT M : va_W) (sw sn ki mw mn kp : Nat → Int32) (hXT : XTSt cI cJ cB cZ cL x sw sn ki XT) (hM : MSt cI cJ cB cZ cL y mw mn kp M) (hJ : JJ sw sn ki mw mn kp) (hP : va_P g vwCl (XT ++ M) H) (hD : va_D (fun q : Nat => s.heap.size ≤ q) (XT ++ M)) (hS : va_S (fun q : Nat => s.heap.size ≤ q) s.heap H locs) (hl : lv_has ls 4 [(0, .ref sb), (1, .ref x), (2, .ref y), (3, .int (nI ii))]) : W p l e room_1 s m #[Value.ref sb] below meth c H locs (1000 + 2 * ii) (100000 + 25 * ii) (lw_Z below #[Value.ref sb] s) (F0 m 2257 ls []) := by
  obtain ⟨hx, hb, hr, hml, hown, hts0, hX, hbl, hlocks, hgv⟩ := id C0
  have hts : ∀ w ∈ v_L_law, w.before #[Value.ref sb] s = true := fun w h => hts0 w (in_v_L_law w h)
  have hown : s.vm.findClass RL = some m.cls := hown
  have hA : ∀ q : Nat, s.heap.size ≤ q → (fun q : Nat => s.heap.size ≤ q) q := fun _ h => h
  have hbA : ¬ (fun q : Nat => s.heap.size ≤ q) sb := Nat.not_le.mpr hbl
  refine lv_aload_n hx hb dL_law_2257 rfl (lv_at hl 1 rfl) ?_
  refine lv_aload_n hx hb dL_law_2258 rfl (lv_at hl 0 rfl) ?_
  refine lv_iload_n hx hb dL_law_2259 rfl (lv_at hl 3 rfl) ?_
  refine lv_iconst (v := 1) hx hb dL_law_2260 (by decide) ?_
  refine lv_iadd hx hb dL_law_2261 ?_
  refine va_sld hx hb hX hbl hbA hS (lw_ix 1 h6 hL (by decide)) dL_law_2262 ?_
  refine lv_topi (nm_r (e' := xs (nI ii + 1).toNatClampNeg) rfl ?_)
  generalize hpv : (xs (nI ii + 1).toNatClampNeg) = pv
  by_cases hout : 0 ≤ pv.toInt ∧ pv.toInt < 3
  · obtain ⟨jk, ejk, hj0, rfl⟩ := nat_i (x := pv) (l := 0) (h := 2) rfl ⟨hout.1, by omega⟩ (by decide)
    have hjk : jk < 3 := by omega
    have hXT9 := hXT
    obtain ⟨im, X9, A9, B9, D9, fo, hp9, hX9, hA9, hB9, hD9, hki9⟩ := hXT9
    cases hfo : fo jk with
    | none =>
      refine lc_i (X := XT) (Rr := M) (va_runV (As := [.int (nI jk)]) (rest := []) ⟨hx, hb, hml, hown, hts⟩ (ci_onN l g cI cJ cB cZ cL kA vA x XT H.size jk hjk im X9 A9 B9 D9 fo hp9 hX9 hA9 hB9 hD9 hfo hki9) (cwV 1 hts (goodIn_app (g_4 (List.mem_cons_of_mem _ (List.mem_append_left _ (List.mem_of_getElem? (i := 356) rfl))) (List.mem_cons_of_mem _ (List.mem_append_left _ (List.mem_of_getElem? (i := 357) rfl))) (List.mem_cons_of_mem _ (List.mem_append_left _ (List.mem_of_getElem? (i := 358) rfl))) (List.mem_cons_of_mem _ (List.mem_append_left _ (List.mem_of_getElem? (i := 3) rfl))) (by decide +kernel)) (goodIn_sub ml_v_fX11_onN good_v_fX11_onN)) rfl rfl rfl (by decide +kernel) ⟨Nat.le_of_ble_eq_true rfl, Nat.le_of_ble_eq_true rfl⟩) (lc_pre (ci := 10) (q := (RX11, TX11, 11)) hK hE hS hA hP hD rfl (xt_mem hXT)) rfl rfl hl.1 rfl (lv_room (Nat.le_of_ble_eq_true rfl)) dL_law_2263 ⟨(by show (1000 + 2 * ii) + 0 ≤ 600000; omega), (by show (100000 + 25 * ii) + 0 ≤ 7302250; omega)⟩) hS hA hP hD (fun r2263 W9 H locs hz2263 hP hD hS => ?_)
      obtain ⟨hr2263, hW9⟩ := hz2263
      refine lv_pop hx hb dL_law_2266 rfl ?_
      refine lv_aload_n hx hb dL_law_2267 rfl (lv_at hl 2 rfl) ?_
      refine lv_aload_n hx hb dL_law_2268 rfl (lv_at hl 0 rfl) ?_
      refine lv_iload_n hx hb dL_law_2269 rfl (lv_at hl 3 rfl) ?_
      refine lv_iconst (v := 1) hx hb dL_law_2270 (by decide) ?_
      refine lv_iadd hx hb dL_law_2271 ?_
      refine va_sld hx hb hX hbl hbA hS (lw_ix 1 h6 hL (by decide)) dL_law_2272 ?_
      refine lv_topi (nm_r (e' := xs (nI ii + 1).toNatClampNeg) rfl ?_)
      have hP := pm_Pp List.perm_append_comm hP
      have hD := pm_Dp List.perm_append_comm hD
      refine lc_i (X := M) (Rr := W9) (va_runV (As := [.int (xs (nI ii + 1).toNatClampNeg)]) (rest := []) ⟨hx, hb, hml, hown, hts⟩ (cm_X12_on l g cI cJ cB cZ cL kA vA y M H.size hM (xs (nI ii + 1).toNatClampNeg)) (cwV 1 hts (goodIn_app (g_4 (List.mem_cons_of_mem _ (List.mem_append_left _ (List.mem_of_getElem? (i := 359) rfl))) (List.mem_cons_of_mem _ (List.mem_append_left _ (List.mem_of_getElem? (i := 360) rfl))) (List.mem_cons_of_mem _ (List.mem_append_left _ (List.mem_of_getElem? (i := 361) rfl))) (List.mem_cons_of_mem _ (List.mem_append_left _ (List.mem_of_getElem? (i := 7) rfl))) (by decide +kernel)) (goodIn_sub ml_v_X12_onF good_v_X12_onF)) rfl rfl rfl (by decide +kernel) ⟨Nat.le_of_ble_eq_true rfl, Nat.le_of_ble_eq_true rfl⟩) (lc_pre (ci := 11) (q := (RX12, TX12, 56)) hK hE hS hA hP hD rfl (mt_mem hM)) rfl rfl hl.1 rfl (lv_room (Nat.le_of_ble_eq_true rfl)) dL_law_2273 ⟨(by show (1000 + 2 * ii) + 0 + 0 ≤ 600000; omega), (by show (100000 + 25 * ii) + 0 + 0 ≤ 7302250; omega)⟩) hS hA hP hD (fun r2273 W1 H locs hz2273 hP hD hS => ?_)
      obtain ⟨hr2273, hW1⟩ := hz2273
      have hP := pm_Pp List.perm_append_comm hP
      have hD := pm_Dp List.perm_append_comm hD
      refine lv_pop hx hb dL_law_2276 rfl ?_
      refine lv_goto (tgt := 2459) hx hb dL_law_2277 (by decide) ?_
      refine W.widen (k := 1009 + 2 * ii) (n := 100145 + 25 * ii) (by omega) (by omega) ?_
      exact hend _ _ _ W9 W1 _ _ _ _ _ _ hW9 hW1 hJ hP hD hS hl
    | some ig =>
      refine lc_i (X := XT) (Rr := M) (va_runV (As := [.int (nI jk)]) (rest := []) ⟨hx, hb, hml, hown, hts⟩ (ci_onE l g cI cJ cB cZ cL kA vA x XT H.size jk hjk im X9 A9 B9 D9 fo hp9 hX9 hA9 hB9 hD9 (by rw [hfo]; exact Option.some_ne_none _) hki9) (cwV 1 hts (goodIn_app (g_4 (List.mem_cons_of_mem _ (List.mem_append_left _ (List.mem_of_getElem? (i := 356) rfl))) (List.mem_cons_of_mem _ (List.mem_append_left _ (List.mem_of_getElem? (i := 357) rfl))) (List.mem_cons_of_mem _ (List.mem_append_left _ (List.mem_of_getElem? (i := 358) rfl))) (List.mem_cons_of_mem _ (List.mem_append_left _ (List.mem_of_getElem? (i := 3) rfl))) (by decide +kernel)) (goodIn_sub ml_v_fX11_onE good_v_fX11_onE)) rfl rfl rfl (by decide +kernel) ⟨Nat.le_of_ble_eq_true rfl, Nat.le_of_ble_eq_true rfl⟩) (lc_pre (ci := 10) (q := (RX11, TX11, 11)) hK hE hS hA hP hD rfl (xt_mem hXT)) rfl rfl hl.1 rfl (lv_room (Nat.le_of_ble_eq_true rfl)) dL_law_2263 ⟨(by show (1000 + 2 * ii) + 0 ≤ 600000; omega), (by show (100000 + 25 * ii) + 0 ≤ 7302250; omega)⟩) hS hA hP hD (fun r2263 W9 H locs hz2263 hP hD hS => ?_)
      obtain ⟨hr2263, hW9⟩ := hz2263
      refine lv_pop hx hb dL_law_2266 rfl ?_
      refine lv_aload_n hx hb dL_law_2267 rfl (lv_at hl 2 rfl) ?_
      refine lv_aload_n hx hb dL_law_2268 rfl (lv_at hl 0 rfl) ?_
      refine lv_iload_n hx hb dL_law_2269 rfl (lv_at hl 3 rfl) ?_
      refine lv_iconst (v := 1) hx hb dL_law_2270 (by decide) ?_
      refine lv_iadd hx hb dL_law_2271 ?_
      refine va_sld hx hb hX hbl hbA hS (lw_ix 1 h6 hL (by decide)) dL_law_2272 ?_
      refine lv_topi (nm_r (e' := xs (nI ii + 1).toNatClampNeg) rfl ?_)
      have hP := pm_Pp List.perm_append_comm hP
      have hD := pm_Dp List.perm_append_comm hD
      refine lc_i (X := M) (Rr := W9) (va_runV (As := [.int (xs (nI ii + 1).toNatClampNeg)]) (rest := []) ⟨hx, hb, hml, hown, hts⟩ (cm_X12_on l g cI cJ cB cZ cL kA vA y M H.size hM (xs (nI ii + 1).toNatClampNeg)) (cwV 1 hts (goodIn_app (g_4 (List.mem_cons_of_mem _ (List.mem_append_left _ (List.mem_of_getElem? (i := 359) rfl))) (List.mem_cons_of_mem _ (List.mem_append_left _ (List.mem_of_getElem? (i := 360) rfl))) (List.mem_cons_of_mem _ (List.mem_append_left _ (List.mem_of_getElem? (i := 361) rfl))) (List.mem_cons_of_mem _ (List.mem_append_left _ (List.mem_of_getElem? (i := 7) rfl))) (by decide +kernel)) (goodIn_sub ml_v_X12_onF good_v_X12_onF)) rfl rfl rfl (by decide +kernel) ⟨Nat.le_of_ble_eq_true rfl, Nat.le_of_ble_eq_true rfl⟩) (lc_pre (ci := 11) (q := (RX12, TX12, 56)) hK hE hS hA hP hD rfl (mt_mem hM)) rfl rfl hl.1 rfl (lv_room (Nat.le_of_ble_eq_true rfl)) dL_law_2273 ⟨(by show (1000 + 2 * ii) + 0 + 0 ≤ 600000; omega), (by show (100000 + 25 * ii) + 0 + 0 ≤ 7302250; omega)⟩) hS hA hP hD (fun r2273 W1 H locs hz2273 hP hD hS => ?_)
      obtain ⟨hr2273, hW1⟩ := hz2273
      have hP := pm_Pp List.perm_append_comm hP
      have hD := pm_Dp List.perm_append_comm hD
      refine lv_pop hx hb dL_law_2276 rfl ?_
      refine lv_goto (tgt := 2459) hx hb dL_law_2277 (by decide) ?_
      refine W.widen (k := 1009 + 2 * ii) (n := 100145 + 25 * ii) (by omega) (by omega) ?_
      exact hend _ _ _ W9 W1 _ _ _ _ _ _ hW9 hW1 hJ hP hD hS hl
  · refine lc_i (X := XT) (Rr := M) (va_runV (As := [.int pv]) (rest := []) ⟨hx, hb, hml, hown, hts⟩ (ci_onO l g cI cJ cB cZ cL kA vA x XT H.size hXT pv hout) (cwV 1 hts (goodIn_app (g_4 (List.mem_cons_of_mem _ (List.mem_append_left _ (List.mem_of_getElem? (i := 356) rfl))) (List.mem_cons_of_mem _ (List.mem_append_left _ (List.mem_of_getElem? (i := 357) rfl))) (List.mem_cons_of_mem _ (List.mem_append_left _ (List.mem_of_getElem? (i := 358) rfl))) (List.mem_cons_of_mem _ (List.mem_append_left _ (List.mem_of_getElem? (i := 3) rfl))) (by decide +kernel)) (goodIn_sub ml_v_fX11_onO good_v_fX11_onO)) rfl rfl rfl (by decide +kernel) ⟨Nat.le_of_ble_eq_true rfl, Nat.le_of_ble_eq_true rfl⟩) (lc_pre (ci := 10) (q := (RX11, TX11, 11)) hK hE hS hA hP hD rfl (xt_mem hXT)) rfl rfl hl.1 rfl (lv_room (Nat.le_of_ble_eq_true rfl)) dL_law_2263 ⟨(by show (1000 + 2 * ii) + 0 ≤ 600000; omega), (by show (100000 + 25 * ii) + 0 ≤ 7302250; omega)⟩) hS hA hP hD (fun r2263 W9 H locs hz2263 hP hD hS => ?_)
    obtain ⟨hr2263, hW9⟩ := hz2263
    refine lv_pop hx hb dL_law_2266 rfl ?_
    refine lv_aload_n hx hb dL_law_2267 rfl (lv_at hl 2 rfl) ?_
    refine lv_aload_n hx hb dL_law_2268 rfl (lv_at hl 0 rfl) ?_
    refine lv_iload_n hx hb dL_law_2269 rfl (lv_at hl 3 rfl) ?_
    refine lv_iconst (v := 1) hx hb dL_law_2270 (by decide) ?_
    refine lv_iadd hx hb dL_law_2271 ?_
    refine va_sld hx hb hX hbl hbA hS (lw_ix 1 h6 hL (by decide)) dL_law_2272 ?_
    refine lv_topi (nm_r (e' := xs (nI ii + 1).toNatClampNeg) rfl ?_)
    have hP := pm_Pp List.perm_append_comm hP
    have hD := pm_Dp List.perm_append_comm hD
    refine lc_i (X := M) (Rr := W9) (va_runV (As := [.int (xs (nI ii + 1).toNatClampNeg)]) (rest := []) ⟨hx, hb, hml, hown, hts⟩ (cm_X12_on l g cI cJ cB cZ cL kA vA y M H.size hM (xs (nI ii + 1).toNatClampNeg)) (cwV 1 hts (goodIn_app (g_4 (List.mem_cons_of_mem _ (List.mem_append_left _ (List.mem_of_getElem? (i := 359) rfl))) (List.mem_cons_of_mem _ (List.mem_append_left _ (List.mem_of_getElem? (i := 360) rfl))) (List.mem_cons_of_mem _ (List.mem_append_left _ (List.mem_of_getElem? (i := 361) rfl))) (List.mem_cons_of_mem _ (List.mem_append_left _ (List.mem_of_getElem? (i := 7) rfl))) (by decide +kernel)) (goodIn_sub ml_v_X12_onF good_v_X12_onF)) rfl rfl rfl (by decide +kernel) ⟨Nat.le_of_ble_eq_true rfl, Nat.le_of_ble_eq_true rfl⟩) (lc_pre (ci := 11) (q := (RX12, TX12, 56)) hK hE hS hA hP hD rfl (mt_mem hM)) rfl rfl hl.1 rfl (lv_room (Nat.le_of_ble_eq_true rfl)) dL_law_2273 ⟨(by show (1000 + 2 * ii) + 0 + 0 ≤ 600000; omega), (by show (100000 + 25 * ii) + 0 + 0 ≤ 7302250; omega)⟩) hS hA hP hD (fun r2273 W1 H locs hz2273 hP hD hS => ?_)
    obtain ⟨hr2273, hW1⟩ := hz2273
    have hP := pm_Pp List.perm_append_comm hP
    have hD := pm_Dp List.perm_append_comm hD
    refine lv_pop hx hb dL_law_2276 rfl ?_
    refine lv_goto (tgt := 2459) hx hb dL_law_2277 (by decide) ?_
    refine W.widen (k := 1009 + 2 * ii) (n := 100145 + 25 * ii) (by omega) (by omega) ?_
    exact hend _ _ _ W9 W1 _ _ _ _ _ _ hW9 hW1 hJ hP hD hS hl
set_option maxHeartbeats 4000000 in
set_option maxRecDepth 100000 in
theorem lw_c60 {p : Program} {e : Env} {s : State} {m : MethodId} {below : List Frame} {meth : Method} {c : Code} (l : Launch) {sb L : Nat} {xs : Nat → Int32} (hL : L ≤ 3072) (C0 : lw_At p s m meth c sb L xs) {g : va_G} {cI cJ cB cZ cL : ClassId} (hK : va_K g vwCl (tyT cI cJ cB cZ cL) s) {kA vA : Nat → Nat} (hE : ENV kA vA (fun q : Nat => s.heap.size ≤ q) s) {x y : Nat} {ii : Nat} (h6 : ii + 6 ≤ L) (hend : ∀ (H : Heap) (locs : List Loc) (ls : Array Slot) (XT M : va_W) (sw sn ki mw mn kp : Nat → Int32) (hXT : XTSt cI cJ cB cZ cL x sw sn ki XT) (hM : MSt cI cJ cB cZ cL y mw mn kp M) (hJ : JJ sw sn ki mw mn kp) (hP : va_P g vwCl (XT ++ M) H) (hD : va_D (fun q : Nat => s.heap.size ≤ q) (XT ++ M)) (hS : va_S (fun q : Nat => s.heap.size ≤ q) s.heap H locs) (hl : lv_has ls 4 [(0, .ref sb), (1, .ref x), (2, .ref y), (3, .int (nI ii))]), W p l e room_1 s m #[Value.ref sb] below meth c H locs (1009 + 2 * ii) (100145 + 25 * ii) (lw_Z below #[Value.ref sb] s) (F0 m 2459 ls [])) (H : Heap) (locs : List Loc) (ls : Array Slot) (XT M : va_W) (sw sn ki mw mn kp : Nat → Int32) (hXT : XTSt cI cJ cB cZ cL x sw sn ki XT) (hM : MSt cI cJ cB cZ cL y mw mn kp M) (hJ : JJ sw sn ki mw mn kp) (hP : va_P g vwCl (XT ++ M) H) (hD : va_D (fun q : Nat => s.heap.size ≤ q) (XT ++ M)) (hS : va_S (fun q : Nat => s.heap.size ≤ q) s.heap H locs) (hl : lv_has ls 4 [(0, .ref sb), (1, .ref x), (2, .ref y), (3, .int (nI ii))]) : W p l e room_1 s m #[Value.ref sb] below meth c H locs (1000 + 2 * ii) (100000 + 25 * ii) (lw_Z below #[Value.ref sb] s) (F0 m 2280 ls []) := by
  obtain ⟨hx, hb, hr, hml, hown, hts0, hX, hbl, hlocks, hgv⟩ := id C0
  have hts : ∀ w ∈ v_L_law, w.before #[Value.ref sb] s = true := fun w h => hts0 w (in_v_L_law w h)
  have hown : s.vm.findClass RL = some m.cls := hown
  have hA : ∀ q : Nat, s.heap.size ≤ q → (fun q : Nat => s.heap.size ≤ q) q := fun _ h => h
  have hbA : ¬ (fun q : Nat => s.heap.size ≤ q) sb := Nat.not_le.mpr hbl
  refine lv_aload_n hx hb dL_law_2280 rfl (lv_at hl 1 rfl) ?_
  refine lv_aload_n hx hb dL_law_2281 rfl (lv_at hl 0 rfl) ?_
  refine lv_iload_n hx hb dL_law_2282 rfl (lv_at hl 3 rfl) ?_
  refine lv_iconst (v := 1) hx hb dL_law_2283 (by decide) ?_
  refine lv_iadd hx hb dL_law_2284 ?_
  refine va_sld hx hb hX hbl hbA hS (lw_ix 1 h6 hL (by decide)) dL_law_2285 ?_
  refine lv_topi (nm_r (e' := xs (nI ii + 1).toNatClampNeg) rfl ?_)
  refine lv_aload_n hx hb dL_law_2286 rfl (lv_at hl 0 rfl) ?_
  refine lv_iload_n hx hb dL_law_2287 rfl (lv_at hl 3 rfl) ?_
  refine lv_iconst (v := 2) hx hb dL_law_2288 (by decide) ?_
  refine lv_iadd hx hb dL_law_2289 ?_
  refine va_sld hx hb hX hbl hbA hS (lw_ix 2 h6 hL (by decide)) dL_law_2290 ?_
  refine lv_topi (nm_r (e' := xs (nI ii + 2).toNatClampNeg) rfl ?_)
  refine lv_aload_n hx hb dL_law_2291 rfl (lv_at hl 0 rfl) ?_
  refine lv_iload_n hx hb dL_law_2292 rfl (lv_at hl 3 rfl) ?_
  refine lv_iconst (v := 3) hx hb dL_law_2293 (by decide) ?_
  refine lv_iadd hx hb dL_law_2294 ?_
  refine va_sld hx hb hX hbl hbA hS (lw_ix 3 h6 hL (by decide)) dL_law_2295 ?_
  refine lv_topi (nm_r (e' := xs (nI ii + 3).toNatClampNeg) rfl ?_)
  refine lc_i (X := XT) (Rr := M) (va_runV (As := [.int (xs (nI ii + 1).toNatClampNeg), .int (xs (nI ii + 2).toNatClampNeg), .int (xs (nI ii + 3).toNatClampNeg)]) (rest := []) ⟨hx, hb, hml, hown, hts⟩ (lift_i (fun im X hX => cx_X11_row l g cI cJ cB cZ cL kA vA x im X H.size hX (xs (nI ii + 1).toNatClampNeg) (xs (nI ii + 2).toNatClampNeg) (xs (nI ii + 3).toNatClampNeg)) hXT) (cwV 3 hts (goodIn_app (g_4 (List.mem_cons_of_mem _ (List.mem_append_left _ (List.mem_of_getElem? (i := 362) rfl))) (List.mem_cons_of_mem _ (List.mem_append_left _ (List.mem_of_getElem? (i := 363) rfl))) (List.mem_cons_of_mem _ (List.mem_append_left _ (List.mem_of_getElem? (i := 364) rfl))) (List.mem_cons_of_mem _ (List.mem_append_left _ (List.mem_of_getElem? (i := 3) rfl))) (by decide +kernel)) (goodIn_sub ml_v_X11_rowF good_v_X11_rowF)) rfl rfl rfl (by decide +kernel) ⟨Nat.le_of_ble_eq_true rfl, Nat.le_of_ble_eq_true rfl⟩) (lc_pre (ci := 10) (q := (RX11, TX11, 11)) hK hE hS hA hP hD rfl (xt_mem hXT)) rfl rfl hl.1 rfl (lv_room (Nat.le_of_ble_eq_true rfl)) dL_law_2296 ⟨(by show (1000 + 2 * ii) + 0 ≤ 600000; omega), (by show (100000 + 25 * ii) + 0 ≤ 7302250; omega)⟩) hS hA hP hD (fun r2296 W1 H locs hz2296 hP hD hS => ?_)
  obtain ⟨hr2296, hW1⟩ := hz2296
  refine lv_pop hx hb dL_law_2299 rfl ?_
  refine lv_aload_n hx hb dL_law_2300 rfl (lv_at hl 2 rfl) ?_
  refine lv_aload_n hx hb dL_law_2301 rfl (lv_at hl 0 rfl) ?_
  refine lv_iload_n hx hb dL_law_2302 rfl (lv_at hl 3 rfl) ?_
  refine lv_iconst (v := 1) hx hb dL_law_2303 (by decide) ?_
  refine lv_iadd hx hb dL_law_2304 ?_
  refine va_sld hx hb hX hbl hbA hS (lw_ix 1 h6 hL (by decide)) dL_law_2305 ?_
  refine lv_topi (nm_r (e' := xs (nI ii + 1).toNatClampNeg) rfl ?_)
  refine lv_aload_n hx hb dL_law_2306 rfl (lv_at hl 0 rfl) ?_
  refine lv_iload_n hx hb dL_law_2307 rfl (lv_at hl 3 rfl) ?_
  refine lv_iconst (v := 2) hx hb dL_law_2308 (by decide) ?_
  refine lv_iadd hx hb dL_law_2309 ?_
  refine va_sld hx hb hX hbl hbA hS (lw_ix 2 h6 hL (by decide)) dL_law_2310 ?_
  refine lv_topi (nm_r (e' := xs (nI ii + 2).toNatClampNeg) rfl ?_)
  refine lv_aload_n hx hb dL_law_2311 rfl (lv_at hl 0 rfl) ?_
  refine lv_iload_n hx hb dL_law_2312 rfl (lv_at hl 3 rfl) ?_
  refine lv_iconst (v := 3) hx hb dL_law_2313 (by decide) ?_
  refine lv_iadd hx hb dL_law_2314 ?_
  refine va_sld hx hb hX hbl hbA hS (lw_ix 3 h6 hL (by decide)) dL_law_2315 ?_
  refine lv_topi (nm_r (e' := xs (nI ii + 3).toNatClampNeg) rfl ?_)
  have hP := pm_Pp List.perm_append_comm hP
  have hD := pm_Dp List.perm_append_comm hD
  refine lc_i (X := M) (Rr := W1) (va_runV (As := [.int (xs (nI ii + 1).toNatClampNeg), .int (xs (nI ii + 2).toNatClampNeg), .int (xs (nI ii + 3).toNatClampNeg)]) (rest := []) ⟨hx, hb, hml, hown, hts⟩ (cm_X12_row l g cI cJ cB cZ cL kA vA y M H.size hM (xs (nI ii + 1).toNatClampNeg) (xs (nI ii + 2).toNatClampNeg) (xs (nI ii + 3).toNatClampNeg)) (cwV 3 hts (goodIn_app (g_4 (List.mem_cons_of_mem _ (List.mem_append_left _ (List.mem_of_getElem? (i := 365) rfl))) (List.mem_cons_of_mem _ (List.mem_append_left _ (List.mem_of_getElem? (i := 366) rfl))) (List.mem_cons_of_mem _ (List.mem_append_left _ (List.mem_of_getElem? (i := 367) rfl))) (List.mem_cons_of_mem _ (List.mem_append_left _ (List.mem_of_getElem? (i := 7) rfl))) (by decide +kernel)) (goodIn_sub ml_v_X12_rowF good_v_X12_rowF)) rfl rfl rfl (by decide +kernel) ⟨Nat.le_of_ble_eq_true rfl, Nat.le_of_ble_eq_true rfl⟩) (lc_pre (ci := 11) (q := (RX12, TX12, 56)) hK hE hS hA hP hD rfl (mt_mem hM)) rfl rfl hl.1 rfl (lv_room (Nat.le_of_ble_eq_true rfl)) dL_law_2316 ⟨(by show (1000 + 2 * ii) + 0 + 0 ≤ 600000; omega), (by show (100000 + 25 * ii) + 0 + 0 ≤ 7302250; omega)⟩) hS hA hP hD (fun r2316 W2 H locs hz2316 hP hD hS => ?_)
  obtain ⟨hr2316, hW2⟩ := hz2316
  have hP := pm_Pp List.perm_append_comm hP
  have hD := pm_Dp List.perm_append_comm hD
  refine lv_pop hx hb dL_law_2319 rfl ?_
  refine lv_goto (tgt := 2459) hx hb dL_law_2320 (by decide) ?_
  refine W.widen (k := 1009 + 2 * ii) (n := 100145 + 25 * ii) (by omega) (by omega) ?_
  exact hend _ _ _ W1 W2 _ _ _ _ _ _ hW1 hW2 (JJ_row hJ (xs (nI ii + 1).toNatClampNeg) (xs (nI ii + 2).toNatClampNeg) (xs (nI ii + 3).toNatClampNeg)) hP hD hS hl
set_option maxHeartbeats 4000000 in
set_option maxRecDepth 100000 in
theorem lw_c61 {p : Program} {e : Env} {s : State} {m : MethodId} {below : List Frame} {meth : Method} {c : Code} (l : Launch) {sb L : Nat} {xs : Nat → Int32} (hL : L ≤ 3072) (C0 : lw_At p s m meth c sb L xs) {g : va_G} {cI cJ cB cZ cL : ClassId} (hK : va_K g vwCl (tyT cI cJ cB cZ cL) s) {kA vA : Nat → Nat} (hE : ENV kA vA (fun q : Nat => s.heap.size ≤ q) s) {x y : Nat} {ii : Nat} (h6 : ii + 6 ≤ L) (hend : ∀ (H : Heap) (locs : List Loc) (ls : Array Slot) (XT M : va_W) (sw sn ki mw mn kp : Nat → Int32) (hXT : XTSt cI cJ cB cZ cL x sw sn ki XT) (hM : MSt cI cJ cB cZ cL y mw mn kp M) (hJ : JJ sw sn ki mw mn kp) (hP : va_P g vwCl (XT ++ M) H) (hD : va_D (fun q : Nat => s.heap.size ≤ q) (XT ++ M)) (hS : va_S (fun q : Nat => s.heap.size ≤ q) s.heap H locs) (hl : lv_has ls 4 [(0, .ref sb), (1, .ref x), (2, .ref y), (3, .int (nI ii))]), W p l e room_1 s m #[Value.ref sb] below meth c H locs (1009 + 2 * ii) (100145 + 25 * ii) (lw_Z below #[Value.ref sb] s) (F0 m 2459 ls [])) (H : Heap) (locs : List Loc) (ls : Array Slot) (XT M : va_W) (sw sn ki mw mn kp : Nat → Int32) (hXT : XTSt cI cJ cB cZ cL x sw sn ki XT) (hM : MSt cI cJ cB cZ cL y mw mn kp M) (hJ : JJ sw sn ki mw mn kp) (hP : va_P g vwCl (XT ++ M) H) (hD : va_D (fun q : Nat => s.heap.size ≤ q) (XT ++ M)) (hS : va_S (fun q : Nat => s.heap.size ≤ q) s.heap H locs) (hl : lv_has ls 4 [(0, .ref sb), (1, .ref x), (2, .ref y), (3, .int (nI ii))]) : W p l e room_1 s m #[Value.ref sb] below meth c H locs (1000 + 2 * ii) (100000 + 25 * ii) (lw_Z below #[Value.ref sb] s) (F0 m 2323 ls []) := by
  obtain ⟨hx, hb, hr, hml, hown, hts0, hX, hbl, hlocks, hgv⟩ := id C0
  have hts : ∀ w ∈ v_L_law, w.before #[Value.ref sb] s = true := fun w h => hts0 w (in_v_L_law w h)
  have hown : s.vm.findClass RL = some m.cls := hown
  have hA : ∀ q : Nat, s.heap.size ≤ q → (fun q : Nat => s.heap.size ≤ q) q := fun _ h => h
  have hbA : ¬ (fun q : Nat => s.heap.size ≤ q) sb := Nat.not_le.mpr hbl
  refine lv_aload_n hx hb dL_law_2323 rfl (lv_at hl 1 rfl) ?_
  refine lv_aload_n hx hb dL_law_2324 rfl (lv_at hl 0 rfl) ?_
  refine lv_iload_n hx hb dL_law_2325 rfl (lv_at hl 3 rfl) ?_
  refine lv_iconst (v := 1) hx hb dL_law_2326 (by decide) ?_
  refine lv_iadd hx hb dL_law_2327 ?_
  refine va_sld hx hb hX hbl hbA hS (lw_ix 1 h6 hL (by decide)) dL_law_2328 ?_
  refine lv_topi (nm_r (e' := xs (nI ii + 1).toNatClampNeg) rfl ?_)
  refine lv_aload_n hx hb dL_law_2329 rfl (lv_at hl 0 rfl) ?_
  refine lv_iload_n hx hb dL_law_2330 rfl (lv_at hl 3 rfl) ?_
  refine lv_iconst (v := 2) hx hb dL_law_2331 (by decide) ?_
  refine lv_iadd hx hb dL_law_2332 ?_
  refine va_sld hx hb hX hbl hbA hS (lw_ix 2 h6 hL (by decide)) dL_law_2333 ?_
  refine lv_topi (nm_r (e' := xs (nI ii + 2).toNatClampNeg) rfl ?_)
  refine lv_aload_n hx hb dL_law_2334 rfl (lv_at hl 0 rfl) ?_
  refine lv_iload_n hx hb dL_law_2335 rfl (lv_at hl 3 rfl) ?_
  refine lv_iconst (v := 3) hx hb dL_law_2336 (by decide) ?_
  refine lv_iadd hx hb dL_law_2337 ?_
  refine va_sld hx hb hX hbl hbA hS (lw_ix 3 h6 hL (by decide)) dL_law_2338 ?_
  refine lv_topi (nm_r (e' := xs (nI ii + 3).toNatClampNeg) rfl ?_)
  refine lv_i2l (v := (xs (nI ii + 3).toNatClampNeg).toInt64) hx hb dL_law_2339 rfl ?_
  refine lv_topl (fun z2339 _ => ?_)
  refine lv_bipush (v := 32) hx hb dL_law_2340 (by decide) ?_
  refine lv_lshl (v := (z2339 <<< ((32 : Int32).toInt64 &&& 63))) hx hb dL_law_2342 rfl ?_
  refine lv_topl (fun z2342 _ => ?_)
  refine lv_aload_n hx hb dL_law_2343 rfl (lv_at hl 0 rfl) ?_
  refine lv_iload_n hx hb dL_law_2344 rfl (lv_at hl 3 rfl) ?_
  refine lv_iconst (v := 4) hx hb dL_law_2345 (by decide) ?_
  refine lv_iadd hx hb dL_law_2346 ?_
  refine va_sld hx hb hX hbl hbA hS (lw_ix 4 h6 hL (by decide)) dL_law_2347 ?_
  refine lv_topi (nm_r (e' := xs (nI ii + 4).toNatClampNeg) rfl ?_)
  refine lv_i2l (v := (xs (nI ii + 4).toNatClampNeg).toInt64) hx hb dL_law_2348 rfl ?_
  refine lv_topl (fun z2348 _ => ?_)
  refine lv_ldc2 (v := 4294967295) hx hb hown (hts (.constantLong RL 264 (4294967295)) (List.mem_cons_of_mem _ (List.mem_append_left _ (List.mem_of_getElem? (i := 368) rfl)))) dL_law_2349 ?_
  refine lv_land hx hb dL_law_2352 ?_
  refine lv_topl (fun z2352 _ => ?_)
  refine lv_lor hx hb dL_law_2353 ?_
  refine lv_topl (fun z2353 _ => ?_)
  refine lc_i (X := XT) (Rr := M) (va_runV (As := [.int (xs (nI ii + 1).toNatClampNeg), .int (xs (nI ii + 2).toNatClampNeg), .long z2353]) (rest := []) ⟨hx, hb, hml, hown, hts⟩ (lift_i (fun im X hX => cx_X11_write l g cI cJ cB cZ cL kA vA x im X H.size hX (xs (nI ii + 1).toNatClampNeg) (xs (nI ii + 2).toNatClampNeg) z2353) hXT) (cwV 3 hts (goodIn_app (g_4 (List.mem_cons_of_mem _ (List.mem_append_left _ (List.mem_of_getElem? (i := 369) rfl))) (List.mem_cons_of_mem _ (List.mem_append_left _ (List.mem_of_getElem? (i := 370) rfl))) (List.mem_cons_of_mem _ (List.mem_append_left _ (List.mem_of_getElem? (i := 371) rfl))) (List.mem_cons_of_mem _ (List.mem_append_left _ (List.mem_of_getElem? (i := 3) rfl))) (by decide +kernel)) (goodIn_sub ml_v_X11_writeF good_v_X11_writeF)) rfl rfl rfl (by decide +kernel) ⟨Nat.le_of_ble_eq_true rfl, Nat.le_of_ble_eq_true rfl⟩) (lc_pre (ci := 10) (q := (RX11, TX11, 11)) hK hE hS hA hP hD rfl (xt_mem hXT)) rfl rfl hl.1 rfl (lv_room (Nat.le_of_ble_eq_true rfl)) dL_law_2354 ⟨(by show (1000 + 2 * ii) + 0 ≤ 600000; omega), (by show (100000 + 25 * ii) + 0 ≤ 7302250; omega)⟩) hS hA hP hD (fun r2354 W1 H locs hz2354 hP hD hS => ?_)
  obtain ⟨hr2354, hW1⟩ := hz2354
  refine lv_pop hx hb dL_law_2357 rfl ?_
  refine lv_aload_n hx hb dL_law_2358 rfl (lv_at hl 2 rfl) ?_
  refine lv_aload_n hx hb dL_law_2359 rfl (lv_at hl 0 rfl) ?_
  refine lv_iload_n hx hb dL_law_2360 rfl (lv_at hl 3 rfl) ?_
  refine lv_iconst (v := 1) hx hb dL_law_2361 (by decide) ?_
  refine lv_iadd hx hb dL_law_2362 ?_
  refine va_sld hx hb hX hbl hbA hS (lw_ix 1 h6 hL (by decide)) dL_law_2363 ?_
  refine lv_topi (nm_r (e' := xs (nI ii + 1).toNatClampNeg) rfl ?_)
  refine lv_aload_n hx hb dL_law_2364 rfl (lv_at hl 0 rfl) ?_
  refine lv_iload_n hx hb dL_law_2365 rfl (lv_at hl 3 rfl) ?_
  refine lv_iconst (v := 2) hx hb dL_law_2366 (by decide) ?_
  refine lv_iadd hx hb dL_law_2367 ?_
  refine va_sld hx hb hX hbl hbA hS (lw_ix 2 h6 hL (by decide)) dL_law_2368 ?_
  refine lv_topi (nm_r (e' := xs (nI ii + 2).toNatClampNeg) rfl ?_)
  refine lv_aload_n hx hb dL_law_2369 rfl (lv_at hl 0 rfl) ?_
  refine lv_iload_n hx hb dL_law_2370 rfl (lv_at hl 3 rfl) ?_
  refine lv_iconst (v := 3) hx hb dL_law_2371 (by decide) ?_
  refine lv_iadd hx hb dL_law_2372 ?_
  refine va_sld hx hb hX hbl hbA hS (lw_ix 3 h6 hL (by decide)) dL_law_2373 ?_
  refine lv_topi (nm_r (e' := xs (nI ii + 3).toNatClampNeg) rfl ?_)
  refine lv_i2l (v := (xs (nI ii + 3).toNatClampNeg).toInt64) hx hb dL_law_2374 rfl ?_
  refine lv_topl (fun z2374 _ => ?_)
  refine lv_bipush (v := 32) hx hb dL_law_2375 (by decide) ?_
  refine lv_lshl (v := (z2374 <<< ((32 : Int32).toInt64 &&& 63))) hx hb dL_law_2377 rfl ?_
  refine lv_topl (fun z2377 _ => ?_)
  refine lv_aload_n hx hb dL_law_2378 rfl (lv_at hl 0 rfl) ?_
  refine lv_iload_n hx hb dL_law_2379 rfl (lv_at hl 3 rfl) ?_
  refine lv_iconst (v := 4) hx hb dL_law_2380 (by decide) ?_
  refine lv_iadd hx hb dL_law_2381 ?_
  refine va_sld hx hb hX hbl hbA hS (lw_ix 4 h6 hL (by decide)) dL_law_2382 ?_
  refine lv_topi (nm_r (e' := xs (nI ii + 4).toNatClampNeg) rfl ?_)
  refine lv_i2l (v := (xs (nI ii + 4).toNatClampNeg).toInt64) hx hb dL_law_2383 rfl ?_
  refine lv_topl (fun z2383 _ => ?_)
  refine lv_ldc2 (v := 4294967295) hx hb hown (hts (.constantLong RL 264 (4294967295)) (List.mem_cons_of_mem _ (List.mem_append_left _ (List.mem_of_getElem? (i := 368) rfl)))) dL_law_2384 ?_
  refine lv_land hx hb dL_law_2387 ?_
  refine lv_topl (fun z2387 _ => ?_)
  refine lv_lor hx hb dL_law_2388 ?_
  refine lv_topl (fun z2388 _ => ?_)
  have hP := pm_Pp List.perm_append_comm hP
  have hD := pm_Dp List.perm_append_comm hD
  refine lc_i (X := M) (Rr := W1) (va_runV (As := [.int (xs (nI ii + 1).toNatClampNeg), .int (xs (nI ii + 2).toNatClampNeg), .long z2388]) (rest := []) ⟨hx, hb, hml, hown, hts⟩ (cm_X12_write l g cI cJ cB cZ cL kA vA y M H.size hM (xs (nI ii + 1).toNatClampNeg) (xs (nI ii + 2).toNatClampNeg) z2388) (cwV 3 hts (goodIn_app (g_4 (List.mem_cons_of_mem _ (List.mem_append_left _ (List.mem_of_getElem? (i := 372) rfl))) (List.mem_cons_of_mem _ (List.mem_append_left _ (List.mem_of_getElem? (i := 373) rfl))) (List.mem_cons_of_mem _ (List.mem_append_left _ (List.mem_of_getElem? (i := 374) rfl))) (List.mem_cons_of_mem _ (List.mem_append_left _ (List.mem_of_getElem? (i := 7) rfl))) (by decide +kernel)) (goodIn_sub ml_v_X12_writeF good_v_X12_writeF)) rfl rfl rfl (by decide +kernel) ⟨Nat.le_of_ble_eq_true rfl, Nat.le_of_ble_eq_true rfl⟩) (lc_pre (ci := 11) (q := (RX12, TX12, 56)) hK hE hS hA hP hD rfl (mt_mem hM)) rfl rfl hl.1 rfl (lv_room (Nat.le_of_ble_eq_true rfl)) dL_law_2389 ⟨(by show (1000 + 2 * ii) + 0 + 0 ≤ 600000; omega), (by show (100000 + 25 * ii) + 0 + 0 ≤ 7302250; omega)⟩) hS hA hP hD (fun r2389 W2 H locs hz2389 hP hD hS => ?_)
  obtain ⟨hr2389, hW2⟩ := hz2389
  have hP := pm_Pp List.perm_append_comm hP
  have hD := pm_Dp List.perm_append_comm hD
  refine lv_pop hx hb dL_law_2392 rfl ?_
  refine lv_goto (tgt := 2459) hx hb dL_law_2393 (by decide) ?_
  refine W.widen (k := 1009 + 2 * ii) (n := 100145 + 25 * ii) (by omega) (by omega) ?_
  exact hend _ _ _ W1 W2 _ _ _ _ _ _ hW1 hW2 hJ hP hD hS hl
set_option maxHeartbeats 4000000 in
set_option maxRecDepth 100000 in
theorem lw_c62 {p : Program} {e : Env} {s : State} {m : MethodId} {below : List Frame} {meth : Method} {c : Code} (l : Launch) {sb L : Nat} {xs : Nat → Int32} (hL : L ≤ 3072) (C0 : lw_At p s m meth c sb L xs) {g : va_G} {cI cJ cB cZ cL : ClassId} (hK : va_K g vwCl (tyT cI cJ cB cZ cL) s) {kA vA : Nat → Nat} (hE : ENV kA vA (fun q : Nat => s.heap.size ≤ q) s) {x y : Nat} {ii : Nat} (h6 : ii + 6 ≤ L) (hend : ∀ (H : Heap) (locs : List Loc) (ls : Array Slot) (XT M : va_W) (sw sn ki mw mn kp : Nat → Int32) (hXT : XTSt cI cJ cB cZ cL x sw sn ki XT) (hM : MSt cI cJ cB cZ cL y mw mn kp M) (hJ : JJ sw sn ki mw mn kp) (hP : va_P g vwCl (XT ++ M) H) (hD : va_D (fun q : Nat => s.heap.size ≤ q) (XT ++ M)) (hS : va_S (fun q : Nat => s.heap.size ≤ q) s.heap H locs) (hl : lv_has ls 4 [(0, .ref sb), (1, .ref x), (2, .ref y), (3, .int (nI ii))]), W p l e room_1 s m #[Value.ref sb] below meth c H locs (1009 + 2 * ii) (100145 + 25 * ii) (lw_Z below #[Value.ref sb] s) (F0 m 2459 ls [])) (H : Heap) (locs : List Loc) (ls : Array Slot) (XT M : va_W) (sw sn ki mw mn kp : Nat → Int32) (hXT : XTSt cI cJ cB cZ cL x sw sn ki XT) (hM : MSt cI cJ cB cZ cL y mw mn kp M) (hJ : JJ sw sn ki mw mn kp) (hP : va_P g vwCl (XT ++ M) H) (hD : va_D (fun q : Nat => s.heap.size ≤ q) (XT ++ M)) (hS : va_S (fun q : Nat => s.heap.size ≤ q) s.heap H locs) (hl : lv_has ls 4 [(0, .ref sb), (1, .ref x), (2, .ref y), (3, .int (nI ii))]) : W p l e room_1 s m #[Value.ref sb] below meth c H locs (1000 + 2 * ii) (100000 + 25 * ii) (lw_Z below #[Value.ref sb] s) (F0 m 2396 ls []) := by
  obtain ⟨hx, hb, hr, hml, hown, hts0, hX, hbl, hlocks, hgv⟩ := id C0
  have hts : ∀ w ∈ v_L_law, w.before #[Value.ref sb] s = true := fun w h => hts0 w (in_v_L_law w h)
  have hown : s.vm.findClass RL = some m.cls := hown
  have hA : ∀ q : Nat, s.heap.size ≤ q → (fun q : Nat => s.heap.size ≤ q) q := fun _ h => h
  have hbA : ¬ (fun q : Nat => s.heap.size ≤ q) sb := Nat.not_le.mpr hbl
  refine lv_aload_n hx hb dL_law_2396 rfl (lv_at hl 1 rfl) ?_
  refine lv_aload_n hx hb dL_law_2397 rfl (lv_at hl 0 rfl) ?_
  refine lv_iload_n hx hb dL_law_2398 rfl (lv_at hl 3 rfl) ?_
  refine lv_iconst (v := 1) hx hb dL_law_2399 (by decide) ?_
  refine lv_iadd hx hb dL_law_2400 ?_
  refine va_sld hx hb hX hbl hbA hS (lw_ix 1 h6 hL (by decide)) dL_law_2401 ?_
  refine lv_topi (nm_r (e' := xs (nI ii + 1).toNatClampNeg) rfl ?_)
  refine lv_aload_n hx hb dL_law_2402 rfl (lv_at hl 0 rfl) ?_
  refine lv_iload_n hx hb dL_law_2403 rfl (lv_at hl 3 rfl) ?_
  refine lv_iconst (v := 2) hx hb dL_law_2404 (by decide) ?_
  refine lv_iadd hx hb dL_law_2405 ?_
  refine va_sld hx hb hX hbl hbA hS (lw_ix 2 h6 hL (by decide)) dL_law_2406 ?_
  refine lv_topi (nm_r (e' := xs (nI ii + 2).toNatClampNeg) rfl ?_)
  refine lv_aload_n hx hb dL_law_2407 rfl (lv_at hl 0 rfl) ?_
  refine lv_iload_n hx hb dL_law_2408 rfl (lv_at hl 3 rfl) ?_
  refine lv_iconst (v := 3) hx hb dL_law_2409 (by decide) ?_
  refine lv_iadd hx hb dL_law_2410 ?_
  refine va_sld hx hb hX hbl hbA hS (lw_ix 3 h6 hL (by decide)) dL_law_2411 ?_
  refine lv_topi (nm_r (e' := xs (nI ii + 3).toNatClampNeg) rfl ?_)
  refine lv_aload_n hx hb dL_law_2412 rfl (lv_at hl 0 rfl) ?_
  refine lv_iload_n hx hb dL_law_2413 rfl (lv_at hl 3 rfl) ?_
  refine lv_iconst (v := 4) hx hb dL_law_2414 (by decide) ?_
  refine lv_iadd hx hb dL_law_2415 ?_
  refine va_sld hx hb hX hbl hbA hS (lw_ix 4 h6 hL (by decide)) dL_law_2416 ?_
  refine lv_topi (nm_r (e' := xs (nI ii + 4).toNatClampNeg) rfl ?_)
  refine lv_aload_n hx hb dL_law_2417 rfl (lv_at hl 0 rfl) ?_
  refine lv_iload_n hx hb dL_law_2418 rfl (lv_at hl 3 rfl) ?_
  refine lv_iconst (v := 5) hx hb dL_law_2419 (by decide) ?_
  refine lv_iadd hx hb dL_law_2420 ?_
  refine va_sld hx hb hX hbl hbA hS (lw_ix 5 h6 hL (by decide)) dL_law_2421 ?_
  refine lv_topi (nm_r (e' := xs (nI ii + 5).toNatClampNeg) rfl ?_)
  refine lc_i (X := XT) (Rr := M) (va_runV (As := [.int (xs (nI ii + 1).toNatClampNeg), .int (xs (nI ii + 2).toNatClampNeg), .int (xs (nI ii + 3).toNatClampNeg), .int (xs (nI ii + 4).toNatClampNeg), .int (xs (nI ii + 5).toNatClampNeg)]) (rest := []) ⟨hx, hb, hml, hown, hts⟩ (lift_i (fun im X hX => cx_X11_paste l g cI cJ cB cZ cL kA vA x im X H.size hX (xs (nI ii + 1).toNatClampNeg) (xs (nI ii + 2).toNatClampNeg) (xs (nI ii + 3).toNatClampNeg) (xs (nI ii + 4).toNatClampNeg) (xs (nI ii + 5).toNatClampNeg)) hXT) (cwV 5 hts (goodIn_app (g_4 (List.mem_cons_of_mem _ (List.mem_append_left _ (List.mem_of_getElem? (i := 375) rfl))) (List.mem_cons_of_mem _ (List.mem_append_left _ (List.mem_of_getElem? (i := 376) rfl))) (List.mem_cons_of_mem _ (List.mem_append_left _ (List.mem_of_getElem? (i := 377) rfl))) (List.mem_cons_of_mem _ (List.mem_append_left _ (List.mem_of_getElem? (i := 3) rfl))) (by decide +kernel)) (goodIn_sub ml_v_X11_pasteF good_v_X11_pasteF)) rfl rfl rfl (by decide +kernel) ⟨Nat.le_of_ble_eq_true rfl, Nat.le_of_ble_eq_true rfl⟩) (lc_pre (ci := 10) (q := (RX11, TX11, 11)) hK hE hS hA hP hD rfl (xt_mem hXT)) rfl rfl hl.1 rfl (lv_room (Nat.le_of_ble_eq_true rfl)) dL_law_2422 ⟨(by show (1000 + 2 * ii) + 0 ≤ 600000; omega), (by show (100000 + 25 * ii) + 0 ≤ 7302250; omega)⟩) hS hA hP hD (fun r2422 W1 H locs hz2422 hP hD hS => ?_)
  obtain ⟨hr2422, hW1⟩ := hz2422
  refine lv_aload_n hx hb dL_law_2425 rfl (lv_at hl 2 rfl) ?_
  refine lv_aload_n hx hb dL_law_2426 rfl (lv_at hl 0 rfl) ?_
  refine lv_iload_n hx hb dL_law_2427 rfl (lv_at hl 3 rfl) ?_
  refine lv_iconst (v := 1) hx hb dL_law_2428 (by decide) ?_
  refine lv_iadd hx hb dL_law_2429 ?_
  refine va_sld hx hb hX hbl hbA hS (lw_ix 1 h6 hL (by decide)) dL_law_2430 ?_
  refine lv_topi (nm_r (e' := xs (nI ii + 1).toNatClampNeg) rfl ?_)
  refine lv_aload_n hx hb dL_law_2431 rfl (lv_at hl 0 rfl) ?_
  refine lv_iload_n hx hb dL_law_2432 rfl (lv_at hl 3 rfl) ?_
  refine lv_iconst (v := 2) hx hb dL_law_2433 (by decide) ?_
  refine lv_iadd hx hb dL_law_2434 ?_
  refine va_sld hx hb hX hbl hbA hS (lw_ix 2 h6 hL (by decide)) dL_law_2435 ?_
  refine lv_topi (nm_r (e' := xs (nI ii + 2).toNatClampNeg) rfl ?_)
  refine lv_aload_n hx hb dL_law_2436 rfl (lv_at hl 0 rfl) ?_
  refine lv_iload_n hx hb dL_law_2437 rfl (lv_at hl 3 rfl) ?_
  refine lv_iconst (v := 3) hx hb dL_law_2438 (by decide) ?_
  refine lv_iadd hx hb dL_law_2439 ?_
  refine va_sld hx hb hX hbl hbA hS (lw_ix 3 h6 hL (by decide)) dL_law_2440 ?_
  refine lv_topi (nm_r (e' := xs (nI ii + 3).toNatClampNeg) rfl ?_)
  refine lv_aload_n hx hb dL_law_2441 rfl (lv_at hl 0 rfl) ?_
  refine lv_iload_n hx hb dL_law_2442 rfl (lv_at hl 3 rfl) ?_
  refine lv_iconst (v := 4) hx hb dL_law_2443 (by decide) ?_
  refine lv_iadd hx hb dL_law_2444 ?_
  refine va_sld hx hb hX hbl hbA hS (lw_ix 4 h6 hL (by decide)) dL_law_2445 ?_
  refine lv_topi (nm_r (e' := xs (nI ii + 4).toNatClampNeg) rfl ?_)
  refine lv_aload_n hx hb dL_law_2446 rfl (lv_at hl 0 rfl) ?_
  refine lv_iload_n hx hb dL_law_2447 rfl (lv_at hl 3 rfl) ?_
  refine lv_iconst (v := 5) hx hb dL_law_2448 (by decide) ?_
  refine lv_iadd hx hb dL_law_2449 ?_
  refine va_sld hx hb hX hbl hbA hS (lw_ix 5 h6 hL (by decide)) dL_law_2450 ?_
  refine lv_topi (nm_r (e' := xs (nI ii + 5).toNatClampNeg) rfl ?_)
  have hP := pm_Pp List.perm_append_comm hP
  have hD := pm_Dp List.perm_append_comm hD
  refine lc_i (X := M) (Rr := W1) (va_runV (As := [.int (xs (nI ii + 1).toNatClampNeg), .int (xs (nI ii + 2).toNatClampNeg), .int (xs (nI ii + 3).toNatClampNeg), .int (xs (nI ii + 4).toNatClampNeg), .int (xs (nI ii + 5).toNatClampNeg)]) (rest := [.int r2422]) ⟨hx, hb, hml, hown, hts⟩ (cm_X12_paste l g cI cJ cB cZ cL kA vA y M H.size hM (xs (nI ii + 1).toNatClampNeg) (xs (nI ii + 2).toNatClampNeg) (xs (nI ii + 3).toNatClampNeg) (xs (nI ii + 4).toNatClampNeg) (xs (nI ii + 5).toNatClampNeg)) (cwV 5 hts (goodIn_app (g_4 (List.mem_cons_of_mem _ (List.mem_append_left _ (List.mem_of_getElem? (i := 378) rfl))) (List.mem_cons_of_mem _ (List.mem_append_left _ (List.mem_of_getElem? (i := 379) rfl))) (List.mem_cons_of_mem _ (List.mem_append_left _ (List.mem_of_getElem? (i := 380) rfl))) (List.mem_cons_of_mem _ (List.mem_append_left _ (List.mem_of_getElem? (i := 7) rfl))) (by decide +kernel)) (goodIn_sub ml_v_X12_pasteF good_v_X12_pasteF)) rfl rfl rfl (by decide +kernel) ⟨Nat.le_of_ble_eq_true rfl, Nat.le_of_ble_eq_true rfl⟩) (lc_pre (ci := 11) (q := (RX12, TX12, 56)) hK hE hS hA hP hD rfl (mt_mem hM)) rfl rfl hl.1 rfl (lv_room (Nat.le_of_ble_eq_true rfl)) dL_law_2451 ⟨(by show (1000 + 2 * ii) + 0 + 0 ≤ 600000; omega), (by show (100000 + 25 * ii) + 0 + 0 ≤ 7302250; omega)⟩) hS hA hP hD (fun r2451 W2 H locs hz2451 hP hD hS => ?_)
  obtain ⟨hr2451, hW2⟩ := hz2451
  have hP := pm_Pp List.perm_append_comm hP
  have hD := pm_Dp List.perm_append_comm hD
  have he : r2422 = r2451 := (by rw [hr2422, hr2451]; exact JJ_paste hJ _ _ _ _ _)
  refine lv_icmp_eq (tgt := 2459) hx hb dL_law_2454 (by decide) (fun _ => ?_) (fun cc => absurd he cc)
  refine W.widen (k := 1009 + 2 * ii) (n := 100145 + 25 * ii) (by omega) (by omega) ?_
  exact hend _ _ _ W1 W2 _ _ _ _ _ _ hW1 hW2 hJ hP hD hS hl
set_option maxHeartbeats 4000000 in
set_option maxRecDepth 100000 in
theorem lw_c63 {p : Program} {e : Env} {s : State} {m : MethodId} {below : List Frame} {meth : Method} {c : Code} (l : Launch) {sb L : Nat} {xs : Nat → Int32} (hL : L ≤ 3072) (C0 : lw_At p s m meth c sb L xs) {g : va_G} {cI cJ cB cZ cL : ClassId} (hK : va_K g vwCl (tyT cI cJ cB cZ cL) s) {kA vA : Nat → Nat} (hE : ENV kA vA (fun q : Nat => s.heap.size ≤ q) s) {x y : Nat} {ii : Nat} (h6 : ii + 6 ≤ L) (hend : ∀ (H : Heap) (locs : List Loc) (ls : Array Slot) (XT M : va_W) (sw sn ki mw mn kp : Nat → Int32) (hXT : XTSt cI cJ cB cZ cL x sw sn ki XT) (hM : MSt cI cJ cB cZ cL y mw mn kp M) (hJ : JJ sw sn ki mw mn kp) (hP : va_P g vwCl (XT ++ M) H) (hD : va_D (fun q : Nat => s.heap.size ≤ q) (XT ++ M)) (hS : va_S (fun q : Nat => s.heap.size ≤ q) s.heap H locs) (hl : lv_has ls 4 [(0, .ref sb), (1, .ref x), (2, .ref y), (3, .int (nI ii))]), W p l e room_1 s m #[Value.ref sb] below meth c H locs (1009 + 2 * ii) (100145 + 25 * ii) (lw_Z below #[Value.ref sb] s) (F0 m 2459 ls [])) (H : Heap) (locs : List Loc) (ls : Array Slot) (XT M : va_W) (sw sn ki mw mn kp : Nat → Int32) (hXT : XTSt cI cJ cB cZ cL x sw sn ki XT) (hM : MSt cI cJ cB cZ cL y mw mn kp M) (hJ : JJ sw sn ki mw mn kp) (hP : va_P g vwCl (XT ++ M) H) (hD : va_D (fun q : Nat => s.heap.size ≤ q) (XT ++ M)) (hS : va_S (fun q : Nat => s.heap.size ≤ q) s.heap H locs) (hl : lv_has ls 4 [(0, .ref sb), (1, .ref x), (2, .ref y), (3, .int (nI ii))]) : W p l e room_1 s m #[Value.ref sb] below meth c H locs (1000 + 2 * ii) (100000 + 25 * ii) (lw_Z below #[Value.ref sb] s) (F0 m 2459 ls []) := by
  obtain ⟨hx, hb, hr, hml, hown, hts0, hX, hbl, hlocks, hgv⟩ := id C0
  have hts : ∀ w ∈ v_L_law, w.before #[Value.ref sb] s = true := fun w h => hts0 w (in_v_L_law w h)
  have hown : s.vm.findClass RL = some m.cls := hown
  have hA : ∀ q : Nat, s.heap.size ≤ q → (fun q : Nat => s.heap.size ≤ q) q := fun _ h => h
  have hbA : ¬ (fun q : Nat => s.heap.size ≤ q) sb := Nat.not_le.mpr hbl
  refine W.widen (k := 1009 + 2 * ii) (n := 100145 + 25 * ii) (by omega) (by omega) ?_
  exact hend _ _ _ XT M _ _ _ _ _ _ hXT hM hJ hP hD hS hl
