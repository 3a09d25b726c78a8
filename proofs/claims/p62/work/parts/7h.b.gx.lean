set_option maxHeartbeats 4000000 in
set_option maxRecDepth 100000 in
theorem lw_c27 {p : Program} {e : Env} {s : State} {m : MethodId} {below : List Frame} {meth : Method} {c : Code} (l : Launch) {sb L : Nat} {xs : Nat → Int32} (hL : L ≤ 3072) (C0 : lw_At p s m meth c sb L xs) {g : va_G} {cI cJ cB cZ cL : ClassId} (hK : va_K g vwCl (tyT cI cJ cB cZ cL) s) {kA vA : Nat → Nat} (hE : ENV kA vA (fun q : Nat => s.heap.size ≤ q) s) {x y : Nat} {ii : Nat} (h6 : ii + 6 ≤ L) (hend : ∀ (H : Heap) (locs : List Loc) (ls : Array Slot) (XT M : va_W) (sw sn ki mw mn kp : Nat → Int32) (hXT : XTSt cI cJ cB cZ cL x sw sn ki XT) (hM : MSt cI cJ cB cZ cL y mw mn kp M) (hJ : JJ sw sn ki mw mn kp) (hP : va_P g vwCl (XT ++ M) H) (hD : va_D (fun q : Nat => s.heap.size ≤ q) (XT ++ M)) (hS : va_S (fun q : Nat => s.heap.size ≤ q) s.heap H locs) (hl : lv_has ls 4 [(0, .ref sb), (1, .ref x), (2, .ref y), (3, .int (nI ii))]), W p l e room_1 s m #[Value.ref sb] below meth c H locs (1009 + 2 * ii) (100145 + 25 * ii) (lw_Z below #[Value.ref sb] s) (F0 m 2459 ls [])) (H : Heap) (locs : List Loc) (ls : Array Slot) (XT M : va_W) (sw sn ki mw mn kp : Nat → Int32) (hXT : XTSt cI cJ cB cZ cL x sw sn ki XT) (hM : MSt cI cJ cB cZ cL y mw mn kp M) (hJ : JJ sw sn ki mw mn kp) (hP : va_P g vwCl (XT ++ M) H) (hD : va_D (fun q : Nat => s.heap.size ≤ q) (XT ++ M)) (hS : va_S (fun q : Nat => s.heap.size ≤ q) s.heap H locs) (hl : lv_has ls 4 [(0, .ref sb), (1, .ref x), (2, .ref y), (3, .int (nI ii))]) : W p l e room_1 s m #[Value.ref sb] below meth c H locs (1000 + 2 * ii) (100000 + 25 * ii) (lw_Z below #[Value.ref sb] s) (F0 m 1151 ls []) := by
  obtain ⟨hx, hb, hr, hml, hown, hts0, hX, hbl, hlocks, hgv⟩ := id C0
  have hts : ∀ w ∈ v_L_law, w.before #[Value.ref sb] s = true := fun w h => hts0 w (in_v_L_law w h)
  have hown : s.vm.findClass RL = some m.cls := hown
  have hA : ∀ q : Nat, s.heap.size ≤ q → (fun q : Nat => s.heap.size ≤ q) q := fun _ h => h
  have hbA : ¬ (fun q : Nat => s.heap.size ≤ q) sb := Nat.not_le.mpr hbl
  refine lv_aload_n hx hb dL_law_1151 rfl (lv_at hl 1 rfl) ?_
  refine lv_aload_n hx hb dL_law_1152 rfl (lv_at hl 0 rfl) ?_
  refine lv_iload_n hx hb dL_law_1153 rfl (lv_at hl 3 rfl) ?_
  refine lv_iconst (v := 1) hx hb dL_law_1154 (by decide) ?_
  refine lv_iadd hx hb dL_law_1155 ?_
  refine va_sld hx hb hX hbl hbA hS (lw_ix 1 h6 hL (by decide)) dL_law_1156 ?_
  refine lv_topi (nm_r (e' := xs (nI ii + 1).toNatClampNeg) rfl ?_)
  refine lc_i (X := XT) (Rr := M) (va_runV (As := [.int (xs (nI ii + 1).toNatClampNeg)]) (rest := []) ⟨hx, hb, hml, hown, hts⟩ (lift_i (fun im X hX => cx_faithful l g cI cJ cB cZ cL kA vA x im X H.size hX (xs (nI ii + 1).toNatClampNeg)) hXT) (cwV 1 hts (goodIn_app (g_4 (List.mem_cons_of_mem _ (List.mem_append_left _ (List.mem_of_getElem? (i := 164) rfl))) (List.mem_cons_of_mem _ (List.mem_append_left _ (List.mem_of_getElem? (i := 165) rfl))) (List.mem_cons_of_mem _ (List.mem_append_left _ (List.mem_of_getElem? (i := 166) rfl))) (List.mem_cons_of_mem _ (List.mem_append_left _ (List.mem_of_getElem? (i := 3) rfl))) (by decide +kernel)) (goodIn_sub ml_v_fX11_faithful good_v_fX11_faithful)) rfl rfl rfl (by decide +kernel) ⟨Nat.le_of_ble_eq_true rfl, Nat.le_of_ble_eq_true rfl⟩) (lc_pre (ci := 10) (q := (RX11, TX11, 11)) hK hE hS hA hP hD rfl (xt_mem hXT)) rfl rfl hl.1 rfl (lv_room (Nat.le_of_ble_eq_true rfl)) dL_law_1157 ⟨(by show (1000 + 2 * ii) + 0 ≤ 600000; omega), (by show (100000 + 25 * ii) + 0 ≤ 7302250; omega)⟩) hS hA hP hD (fun r1157 W1 H locs hz1157 hP hD hS => ?_)
  obtain ⟨hr1157, hW1⟩ := hz1157
  refine lv_pop hx hb dL_law_1160 rfl ?_
  refine lv_aload_n hx hb dL_law_1161 rfl (lv_at hl 2 rfl) ?_
  refine lv_aload_n hx hb dL_law_1162 rfl (lv_at hl 0 rfl) ?_
  refine lv_iload_n hx hb dL_law_1163 rfl (lv_at hl 3 rfl) ?_
  refine lv_iconst (v := 1) hx hb dL_law_1164 (by decide) ?_
  refine lv_iadd hx hb dL_law_1165 ?_
  refine va_sld hx hb hX hbl hbA hS (lw_ix 1 h6 hL (by decide)) dL_law_1166 ?_
  refine lv_topi (nm_r (e' := xs (nI ii + 1).toNatClampNeg) rfl ?_)
  have hP := pm_Pp List.perm_append_comm hP
  have hD := pm_Dp List.perm_append_comm hD
  refine lc_i (X := M) (Rr := W1) (va_runV (As := [.int (xs (nI ii + 1).toNatClampNeg)]) (rest := []) ⟨hx, hb, hml, hown, hts⟩ (cm_faithful l g cI cJ cB cZ cL kA vA y M H.size hM (xs (nI ii + 1).toNatClampNeg)) (cwV 1 hts (goodIn_app (g_4 (List.mem_cons_of_mem _ (List.mem_append_left _ (List.mem_of_getElem? (i := 167) rfl))) (List.mem_cons_of_mem _ (List.mem_append_left _ (List.mem_of_getElem? (i := 168) rfl))) (List.mem_cons_of_mem _ (List.mem_append_left _ (List.mem_of_getElem? (i := 169) rfl))) (List.mem_cons_of_mem _ (List.mem_append_left _ (List.mem_of_getElem? (i := 7) rfl))) (by decide +kernel)) (goodIn_sub ml_v_fX12_faithful good_v_fX12_faithful)) rfl rfl rfl (by decide +kernel) ⟨Nat.le_of_ble_eq_true rfl, Nat.le_of_ble_eq_true rfl⟩) (lc_pre (ci := 11) (q := (RX12, TX12, 56)) hK hE hS hA hP hD rfl (mt_mem hM)) rfl rfl hl.1 rfl (lv_room (Nat.le_of_ble_eq_true rfl)) dL_law_1167 ⟨(by show (1000 + 2 * ii) + 0 + 0 ≤ 600000; omega), (by show (100000 + 25 * ii) + 0 + 0 ≤ 7302250; omega)⟩) hS hA hP hD (fun r1167 W2 H locs hz1167 hP hD hS => ?_)
  obtain ⟨hr1167, hW2⟩ := hz1167
  have hP := pm_Pp List.perm_append_comm hP
  have hD := pm_Dp List.perm_append_comm hD
  refine lv_pop hx hb dL_law_1170 rfl ?_
  refine lv_goto (tgt := 2459) hx hb dL_law_1171 (by decide) ?_
  refine W.widen (k := 1009 + 2 * ii) (n := 100145 + 25 * ii) (by omega) (by omega) ?_
  exact hend _ _ _ W1 W2 _ _ _ _ _ _ hW1 hW2 hJ hP hD hS hl
set_option maxHeartbeats 4000000 in
set_option maxRecDepth 100000 in
theorem lw_c28 {p : Program} {e : Env} {s : State} {m : MethodId} {below : List Frame} {meth : Method} {c : Code} (l : Launch) {sb L : Nat} {xs : Nat → Int32} (hL : L ≤ 3072) (C0 : lw_At p s m meth c sb L xs) {g : va_G} {cI cJ cB cZ cL : ClassId} (hK : va_K g vwCl (tyT cI cJ cB cZ cL) s) {kA vA : Nat → Nat} (hE : ENV kA vA (fun q : Nat => s.heap.size ≤ q) s) {x y : Nat} {ii : Nat} (h6 : ii + 6 ≤ L) (hend : ∀ (H : Heap) (locs : List Loc) (ls : Array Slot) (XT M : va_W) (sw sn ki mw mn kp : Nat → Int32) (hXT : XTSt cI cJ cB cZ cL x sw sn ki XT) (hM : MSt cI cJ cB cZ cL y mw mn kp M) (hJ : JJ sw sn ki mw mn kp) (hP : va_P g vwCl (XT ++ M) H) (hD : va_D (fun q : Nat => s.heap.size ≤ q) (XT ++ M)) (hS : va_S (fun q : Nat => s.heap.size ≤ q) s.heap H locs) (hl : lv_has ls 4 [(0, .ref sb), (1, .ref x), (2, .ref y), (3, .int (nI ii))]), W p l e room_1 s m #[Value.ref sb] below meth c H locs (1009 + 2 * ii) (100145 + 25 * ii) (lw_Z below #[Value.ref sb] s) (F0 m 2459 ls [])) (H : Heap) (locs : List Loc) (ls : Array Slot) (XT M : va_W) (sw sn ki mw mn kp : Nat → Int32) (hXT : XTSt cI cJ cB cZ cL x sw sn ki XT) (hM : MSt cI cJ cB cZ cL y mw mn kp M) (hJ : JJ sw sn ki mw mn kp) (hP : va_P g vwCl (XT ++ M) H) (hD : va_D (fun q : Nat => s.heap.size ≤ q) (XT ++ M)) (hS : va_S (fun q : Nat => s.heap.size ≤ q) s.heap H locs) (hl : lv_has ls 4 [(0, .ref sb), (1, .ref x), (2, .ref y), (3, .int (nI ii))]) : W p l e room_1 s m #[Value.ref sb] below meth c H locs (1000 + 2 * ii) (100000 + 25 * ii) (lw_Z below #[Value.ref sb] s) (F0 m 1174 ls []) := by
  obtain ⟨hx, hb, hr, hml, hown, hts0, hX, hbl, hlocks, hgv⟩ := id C0
  have hts : ∀ w ∈ v_L_law, w.before #[Value.ref sb] s = true := fun w h => hts0 w (in_v_L_law w h)
  have hown : s.vm.findClass RL = some m.cls := hown
  have hA : ∀ q : Nat, s.heap.size ≤ q → (fun q : Nat => s.heap.size ≤ q) q := fun _ h => h
  have hbA : ¬ (fun q : Nat => s.heap.size ≤ q) sb := Nat.not_le.mpr hbl
  refine lv_aload_n hx hb dL_law_1174 rfl (lv_at hl 1 rfl) ?_
  refine lv_aload_n hx hb dL_law_1175 rfl (lv_at hl 0 rfl) ?_
  refine lv_iload_n hx hb dL_law_1176 rfl (lv_at hl 3 rfl) ?_
  refine lv_iconst (v := 1) hx hb dL_law_1177 (by decide) ?_
  refine lv_iadd hx hb dL_law_1178 ?_
  refine va_sld hx hb hX hbl hbA hS (lw_ix 1 h6 hL (by decide)) dL_law_1179 ?_
  refine lv_topi (nm_r (e' := xs (nI ii + 1).toNatClampNeg) rfl ?_)
  refine lv_aload_n hx hb dL_law_1180 rfl (lv_at hl 0 rfl) ?_
  refine lv_iload_n hx hb dL_law_1181 rfl (lv_at hl 3 rfl) ?_
  refine lv_iconst (v := 2) hx hb dL_law_1182 (by decide) ?_
  refine lv_iadd hx hb dL_law_1183 ?_
  refine va_sld hx hb hX hbl hbA hS (lw_ix 2 h6 hL (by decide)) dL_law_1184 ?_
  refine lv_topi (nm_r (e' := xs (nI ii + 2).toNatClampNeg) rfl ?_)
  refine lv_aload_n hx hb dL_law_1185 rfl (lv_at hl 0 rfl) ?_
  refine lv_iload_n hx hb dL_law_1186 rfl (lv_at hl 3 rfl) ?_
  refine lv_iconst (v := 3) hx hb dL_law_1187 (by decide) ?_
  refine lv_iadd hx hb dL_law_1188 ?_
  refine va_sld hx hb hX hbl hbA hS (lw_ix 3 h6 hL (by decide)) dL_law_1189 ?_
  refine lv_topi (nm_r (e' := xs (nI ii + 3).toNatClampNeg) rfl ?_)
  refine lc_i (X := XT) (Rr := M) (va_runV (As := [.int (xs (nI ii + 1).toNatClampNeg), .int (xs (nI ii + 2).toNatClampNeg), .int (xs (nI ii + 3).toNatClampNeg)]) (rest := []) ⟨hx, hb, hml, hown, hts⟩ (lift_i (fun im X hX => cx_X11_lost l g cI cJ cB cZ cL kA vA x im X H.size hX (xs (nI ii + 1).toNatClampNeg) (xs (nI ii + 2).toNatClampNeg) (xs (nI ii + 3).toNatClampNeg)) hXT) (cwV 3 hts (goodIn_app (g_4 (List.mem_cons_of_mem _ (List.mem_append_left _ (List.mem_of_getElem? (i := 170) rfl))) (List.mem_cons_of_mem _ (List.mem_append_left _ (List.mem_of_getElem? (i := 171) rfl))) (List.mem_cons_of_mem _ (List.mem_append_left _ (List.mem_of_getElem? (i := 172) rfl))) (List.mem_cons_of_mem _ (List.mem_append_left _ (List.mem_of_getElem? (i := 3) rfl))) (by decide +kernel)) (goodIn_sub ml_v_X11_lost good_v_X11_lost)) rfl rfl rfl (by decide +kernel) ⟨Nat.le_of_ble_eq_true rfl, Nat.le_of_ble_eq_true rfl⟩) (lc_pre (ci := 10) (q := (RX11, TX11, 11)) hK hE hS hA hP hD rfl (xt_mem hXT)) rfl rfl hl.1 rfl (lv_room (Nat.le_of_ble_eq_true rfl)) dL_law_1190 ⟨(by show (1000 + 2 * ii) + 0 ≤ 600000; omega), (by show (100000 + 25 * ii) + 0 ≤ 7302250; omega)⟩) hS hA hP hD (fun r1190 W1 H locs hz1190 hP hD hS => ?_)
  obtain ⟨hr1190, hW1⟩ := hz1190
  refine lv_pop hx hb dL_law_1193 rfl ?_
  refine lv_aload_n hx hb dL_law_1194 rfl (lv_at hl 2 rfl) ?_
  refine lv_aload_n hx hb dL_law_1195 rfl (lv_at hl 0 rfl) ?_
  refine lv_iload_n hx hb dL_law_1196 rfl (lv_at hl 3 rfl) ?_
  refine lv_iconst (v := 1) hx hb dL_law_1197 (by decide) ?_
  refine lv_iadd hx hb dL_law_1198 ?_
  refine va_sld hx hb hX hbl hbA hS (lw_ix 1 h6 hL (by decide)) dL_law_1199 ?_
  refine lv_topi (nm_r (e' := xs (nI ii + 1).toNatClampNeg) rfl ?_)
  refine lv_aload_n hx hb dL_law_1200 rfl (lv_at hl 0 rfl) ?_
  refine lv_iload_n hx hb dL_law_1201 rfl (lv_at hl 3 rfl) ?_
  refine lv_iconst (v := 2) hx hb dL_law_1202 (by decide) ?_
  refine lv_iadd hx hb dL_law_1203 ?_
  refine va_sld hx hb hX hbl hbA hS (lw_ix 2 h6 hL (by decide)) dL_law_1204 ?_
  refine lv_topi (nm_r (e' := xs (nI ii + 2).toNatClampNeg) rfl ?_)
  refine lv_aload_n hx hb dL_law_1205 rfl (lv_at hl 0 rfl) ?_
  refine lv_iload_n hx hb dL_law_1206 rfl (lv_at hl 3 rfl) ?_
  refine lv_iconst (v := 3) hx hb dL_law_1207 (by decide) ?_
  refine lv_iadd hx hb dL_law_1208 ?_
  refine va_sld hx hb hX hbl hbA hS (lw_ix 3 h6 hL (by decide)) dL_law_1209 ?_
  refine lv_topi (nm_r (e' := xs (nI ii + 3).toNatClampNeg) rfl ?_)
  have hP := pm_Pp List.perm_append_comm hP
  have hD := pm_Dp List.perm_append_comm hD
  refine lc_i (X := M) (Rr := W1) (va_runV (As := [.int (xs (nI ii + 1).toNatClampNeg), .int (xs (nI ii + 2).toNatClampNeg), .int (xs (nI ii + 3).toNatClampNeg)]) (rest := []) ⟨hx, hb, hml, hown, hts⟩ (cm_X12_lost l g cI cJ cB cZ cL kA vA y M H.size hM (xs (nI ii + 1).toNatClampNeg) (xs (nI ii + 2).toNatClampNeg) (xs (nI ii + 3).toNatClampNeg)) (cwV 3 hts (goodIn_app (g_4 (List.mem_cons_of_mem _ (List.mem_append_left _ (List.mem_of_getElem? (i := 173) rfl))) (List.mem_cons_of_mem _ (List.mem_append_left _ (List.mem_of_getElem? (i := 174) rfl))) (List.mem_cons_of_mem _ (List.mem_append_left _ (List.mem_of_getElem? (i := 175) rfl))) (List.mem_cons_of_mem _ (List.mem_append_left _ (List.mem_of_getElem? (i := 7) rfl))) (by decide +kernel)) (goodIn_sub ml_v_X12_lost good_v_X12_lost)) rfl rfl rfl (by decide +kernel) ⟨Nat.le_of_ble_eq_true rfl, Nat.le_of_ble_eq_true rfl⟩) (lc_pre (ci := 11) (q := (RX12, TX12, 56)) hK hE hS hA hP hD rfl (mt_mem hM)) rfl rfl hl.1 rfl (lv_room (Nat.le_of_ble_eq_true rfl)) dL_law_1210 ⟨(by show (1000 + 2 * ii) + 0 + 0 ≤ 600000; omega), (by show (100000 + 25 * ii) + 0 + 0 ≤ 7302250; omega)⟩) hS hA hP hD (fun r1210 W2 H locs hz1210 hP hD hS => ?_)
  obtain ⟨hr1210, hW2⟩ := hz1210
  have hP := pm_Pp List.perm_append_comm hP
  have hD := pm_Dp List.perm_append_comm hD
  refine lv_pop hx hb dL_law_1213 rfl ?_
  refine lv_goto (tgt := 2459) hx hb dL_law_1214 (by decide) ?_
  refine W.widen (k := 1009 + 2 * ii) (n := 100145 + 25 * ii) (by omega) (by omega) ?_
  exact hend _ _ _ W1 W2 _ _ _ _ _ _ hW1 hW2 hJ hP hD hS hl
set_option maxHeartbeats 4000000 in
set_option maxRecDepth 100000 in
theorem lw_c29 {p : Program} {e : Env} {s : State} {m : MethodId} {below : List Frame} {meth : Method} {c : Code} (l : Launch) {sb L : Nat} {xs : Nat → Int32} (hL : L ≤ 3072) (C0 : lw_At p s m meth c sb L xs) {g : va_G} {cI cJ cB cZ cL : ClassId} (hK : va_K g vwCl (tyT cI cJ cB cZ cL) s) {kA vA : Nat → Nat} (hE : ENV kA vA (fun q : Nat => s.heap.size ≤ q) s) {x y : Nat} {ii : Nat} (h6 : ii + 6 ≤ L) (hend : ∀ (H : Heap) (locs : List Loc) (ls : Array Slot) (XT M : va_W) (sw sn ki mw mn kp : Nat → Int32) (hXT : XTSt cI cJ cB cZ cL x sw sn ki XT) (hM : MSt cI cJ cB cZ cL y mw mn kp M) (hJ : JJ sw sn ki mw mn kp) (hP : va_P g vwCl (XT ++ M) H) (hD : va_D (fun q : Nat => s.heap.size ≤ q) (XT ++ M)) (hS : va_S (fun q : Nat => s.heap.size ≤ q) s.heap H locs) (hl : lv_has ls 4 [(0, .ref sb), (1, .ref x), (2, .ref y), (3, .int (nI ii))]), W p l e room_1 s m #[Value.ref sb] below meth c H locs (1009 + 2 * ii) (100145 + 25 * ii) (lw_Z below #[Value.ref sb] s) (F0 m 2459 ls [])) (H : Heap) (locs : List Loc) (ls : Array Slot) (XT M : va_W) (sw sn ki mw mn kp : Nat → Int32) (hXT : XTSt cI cJ cB cZ cL x sw sn ki XT) (hM : MSt cI cJ cB cZ cL y mw mn kp M) (hJ : JJ sw sn ki mw mn kp) (hP : va_P g vwCl (XT ++ M) H) (hD : va_D (fun q : Nat => s.heap.size ≤ q) (XT ++ M)) (hS : va_S (fun q : Nat => s.heap.size ≤ q) s.heap H locs) (hl : lv_has ls 4 [(0, .ref sb), (1, .ref x), (2, .ref y), (3, .int (nI ii))]) : W p l e room_1 s m #[Value.ref sb] below meth c H locs (1000 + 2 * ii) (100000 + 25 * ii) (lw_Z below #[Value.ref sb] s) (F0 m 1217 ls []) := by
  obtain ⟨hx, hb, hr, hml, hown, hts0, hX, hbl, hlocks, hgv⟩ := id C0
  have hts : ∀ w ∈ v_L_law, w.before #[Value.ref sb] s = true := fun w h => hts0 w (in_v_L_law w h)
  have hown : s.vm.findClass RL = some m.cls := hown
  have hA : ∀ q : Nat, s.heap.size ≤ q → (fun q : Nat => s.heap.size ≤ q) q := fun _ h => h
  have hbA : ¬ (fun q : Nat => s.heap.size ≤ q) sb := Nat.not_le.mpr hbl
  refine lv_aload_n hx hb dL_law_1217 rfl (lv_at hl 1 rfl) ?_
  refine lv_aload_n hx hb dL_law_1218 rfl (lv_at hl 0 rfl) ?_
  refine lv_iload_n hx hb dL_law_1219 rfl (lv_at hl 3 rfl) ?_
  refine lv_iconst (v := 1) hx hb dL_law_1220 (by decide) ?_
  refine lv_iadd hx hb dL_law_1221 ?_
  refine va_sld hx hb hX hbl hbA hS (lw_ix 1 h6 hL (by decide)) dL_law_1222 ?_
  refine lv_topi (nm_r (e' := xs (nI ii + 1).toNatClampNeg) rfl ?_)
  refine lv_aload_n hx hb dL_law_1223 rfl (lv_at hl 0 rfl) ?_
  refine lv_iload_n hx hb dL_law_1224 rfl (lv_at hl 3 rfl) ?_
  refine lv_iconst (v := 2) hx hb dL_law_1225 (by decide) ?_
  refine lv_iadd hx hb dL_law_1226 ?_
  refine va_sld hx hb hX hbl hbA hS (lw_ix 2 h6 hL (by decide)) dL_law_1227 ?_
  refine lv_topi (nm_r (e' := xs (nI ii + 2).toNatClampNeg) rfl ?_)
  refine lc_i (X := XT) (Rr := M) (va_runV (As := [.int (xs (nI ii + 1).toNatClampNeg), .int (xs (nI ii + 2).toNatClampNeg)]) (rest := []) ⟨hx, hb, hml, hown, hts⟩ (lift_i (fun im X hX => cx_X11_back l g cI cJ cB cZ cL kA vA x im X H.size hX (xs (nI ii + 1).toNatClampNeg) (xs (nI ii + 2).toNatClampNeg)) hXT) (cwV 2 hts (goodIn_app (g_4 (List.mem_cons_of_mem _ (List.mem_append_left _ (List.mem_of_getElem? (i := 176) rfl))) (List.mem_cons_of_mem _ (List.mem_append_left _ (List.mem_of_getElem? (i := 177) rfl))) (List.mem_cons_of_mem _ (List.mem_append_left _ (List.mem_of_getElem? (i := 178) rfl))) (List.mem_cons_of_mem _ (List.mem_append_left _ (List.mem_of_getElem? (i := 3) rfl))) (by decide +kernel)) (goodIn_sub ml_v_X11_back good_v_X11_back)) rfl rfl rfl (by decide +kernel) ⟨Nat.le_of_ble_eq_true rfl, Nat.le_of_ble_eq_true rfl⟩) (lc_pre (ci := 10) (q := (RX11, TX11, 11)) hK hE hS hA hP hD rfl (xt_mem hXT)) rfl rfl hl.1 rfl (lv_room (Nat.le_of_ble_eq_true rfl)) dL_law_1228 ⟨(by show (1000 + 2 * ii) + 0 ≤ 600000; omega), (by show (100000 + 25 * ii) + 0 ≤ 7302250; omega)⟩) hS hA hP hD (fun r1228 W1 H locs hz1228 hP hD hS => ?_)
  obtain ⟨hr1228, hW1⟩ := hz1228
  refine lv_pop hx hb dL_law_1231 rfl ?_
  refine lv_aload_n hx hb dL_law_1232 rfl (lv_at hl 2 rfl) ?_
  refine lv_aload_n hx hb dL_law_1233 rfl (lv_at hl 0 rfl) ?_
  refine lv_iload_n hx hb dL_law_1234 rfl (lv_at hl 3 rfl) ?_
  refine lv_iconst (v := 1) hx hb dL_law_1235 (by decide) ?_
  refine lv_iadd hx hb dL_law_1236 ?_
  refine va_sld hx hb hX hbl hbA hS (lw_ix 1 h6 hL (by decide)) dL_law_1237 ?_
  refine lv_topi (nm_r (e' := xs (nI ii + 1).toNatClampNeg) rfl ?_)
  refine lv_aload_n hx hb dL_law_1238 rfl (lv_at hl 0 rfl) ?_
  refine lv_iload_n hx hb dL_law_1239 rfl (lv_at hl 3 rfl) ?_
  refine lv_iconst (v := 2) hx hb dL_law_1240 (by decide) ?_
  refine lv_iadd hx hb dL_law_1241 ?_
  refine va_sld hx hb hX hbl hbA hS (lw_ix 2 h6 hL (by decide)) dL_law_1242 ?_
  refine lv_topi (nm_r (e' := xs (nI ii + 2).toNatClampNeg) rfl ?_)
  have hP := pm_Pp List.perm_append_comm hP
  have hD := pm_Dp List.perm_append_comm hD
  refine lc_i (X := M) (Rr := W1) (va_runV (As := [.int (xs (nI ii + 1).toNatClampNeg), .int (xs (nI ii + 2).toNatClampNeg)]) (rest := []) ⟨hx, hb, hml, hown, hts⟩ (cm_X12_back l g cI cJ cB cZ cL kA vA y M H.size hM (xs (nI ii + 1).toNatClampNeg) (xs (nI ii + 2).toNatClampNeg)) (cwV 2 hts (goodIn_app (g_4 (List.mem_cons_of_mem _ (List.mem_append_left _ (List.mem_of_getElem? (i := 179) rfl))) (List.mem_cons_of_mem _ (List.mem_append_left _ (List.mem_of_getElem? (i := 180) rfl))) (List.mem_cons_of_mem _ (List.mem_append_left _ (List.mem_of_getElem? (i := 181) rfl))) (List.mem_cons_of_mem _ (List.mem_append_left _ (List.mem_of_getElem? (i := 7) rfl))) (by decide +kernel)) (goodIn_sub ml_v_X12_back good_v_X12_back)) rfl rfl rfl (by decide +kernel) ⟨Nat.le_of_ble_eq_true rfl, Nat.le_of_ble_eq_true rfl⟩) (lc_pre (ci := 11) (q := (RX12, TX12, 56)) hK hE hS hA hP hD rfl (mt_mem hM)) rfl rfl hl.1 rfl (lv_room (Nat.le_of_ble_eq_true rfl)) dL_law_1243 ⟨(by show (1000 + 2 * ii) + 0 + 0 ≤ 600000; omega), (by show (100000 + 25 * ii) + 0 + 0 ≤ 7302250; omega)⟩) hS hA hP hD (fun r1243 W2 H locs hz1243 hP hD hS => ?_)
  obtain ⟨hr1243, hW2⟩ := hz1243
  have hP := pm_Pp List.perm_append_comm hP
  have hD := pm_Dp List.perm_append_comm hD
  refine lv_pop hx hb dL_law_1246 rfl ?_
  refine lv_goto (tgt := 2459) hx hb dL_law_1247 (by decide) ?_
  refine W.widen (k := 1009 + 2 * ii) (n := 100145 + 25 * ii) (by omega) (by omega) ?_
  exact hend _ _ _ W1 W2 _ _ _ _ _ _ hW1 hW2 hJ hP hD hS hl
set_option maxHeartbeats 4000000 in
set_option maxRecDepth 100000 in
theorem lw_c30 {p : Program} {e : Env} {s : State} {m : MethodId} {below : List Frame} {meth : Method} {c : Code} (l : Launch) {sb L : Nat} {xs : Nat → Int32} (hL : L ≤ 3072) (C0 : lw_At p s m meth c sb L xs) {g : va_G} {cI cJ cB cZ cL : ClassId} (hK : va_K g vwCl (tyT cI cJ cB cZ cL) s) {kA vA : Nat → Nat} (hE : ENV kA vA (fun q : Nat => s.heap.size ≤ q) s) {x y : Nat} {ii : Nat} (h6 : ii + 6 ≤ L) (hend : ∀ (H : Heap) (locs : List Loc) (ls : Array Slot) (XT M : va_W) (sw sn ki mw mn kp : Nat → Int32) (hXT : XTSt cI cJ cB cZ cL x sw sn ki XT) (hM : MSt cI cJ cB cZ cL y mw mn kp M) (hJ : JJ sw sn ki mw mn kp) (hP : va_P g vwCl (XT ++ M) H) (hD : va_D (fun q : Nat => s.heap.size ≤ q) (XT ++ M)) (hS : va_S (fun q : Nat => s.heap.size ≤ q) s.heap H locs) (hl : lv_has ls 4 [(0, .ref sb), (1, .ref x), (2, .ref y), (3, .int (nI ii))]), W p l e room_1 s m #[Value.ref sb] below meth c H locs (1009 + 2 * ii) (100145 + 25 * ii) (lw_Z below #[Value.ref sb] s) (F0 m 2459 ls [])) (H : Heap) (locs : List Loc) (ls : Array Slot) (XT M : va_W) (sw sn ki mw mn kp : Nat → Int32) (hXT : XTSt cI cJ cB cZ cL x sw sn ki XT) (hM : MSt cI cJ cB cZ cL y mw mn kp M) (hJ : JJ sw sn ki mw mn kp) (hP : va_P g vwCl (XT ++ M) H) (hD : va_D (fun q : Nat => s.heap.size ≤ q) (XT ++ M)) (hS : va_S (fun q : Nat => s.heap.size ≤ q) s.heap H locs) (hl : lv_has ls 4 [(0, .ref sb), (1, .ref x), (2, .ref y), (3, .int (nI ii))]) : W p l e room_1 s m #[Value.ref sb] below meth c H locs (1000 + 2 * ii) (100000 + 25 * ii) (lw_Z below #[Value.ref sb] s) (F0 m 1250 ls []) := by
  obtain ⟨hx, hb, hr, hml, hown, hts0, hX, hbl, hlocks, hgv⟩ := id C0
  have hts : ∀ w ∈ v_L_law, w.before #[Value.ref sb] s = true := fun w h => hts0 w (in_v_L_law w h)
  have hown : s.vm.findClass RL = some m.cls := hown
  have hA : ∀ q : Nat, s.heap.size ≤ q → (fun q : Nat => s.heap.size ≤ q) q := fun _ h => h
  have hbA : ¬ (fun q : Nat => s.heap.size ≤ q) sb := Nat.not_le.mpr hbl
  refine lv_aload_n hx hb dL_law_1250 rfl (lv_at hl 1 rfl) ?_
  refine lv_aload_n hx hb dL_law_1251 rfl (lv_at hl 0 rfl) ?_
  refine lv_iload_n hx hb dL_law_1252 rfl (lv_at hl 3 rfl) ?_
  refine lv_iconst (v := 1) hx hb dL_law_1253 (by decide) ?_
  refine lv_iadd hx hb dL_law_1254 ?_
  refine va_sld hx hb hX hbl hbA hS (lw_ix 1 h6 hL (by decide)) dL_law_1255 ?_
  refine lv_topi (nm_r (e' := xs (nI ii + 1).toNatClampNeg) rfl ?_)
  refine lc_i (X := XT) (Rr := M) (va_runV (As := [.int (xs (nI ii + 1).toNatClampNeg)]) (rest := []) ⟨hx, hb, hml, hown, hts⟩ (lift_i (fun im X hX => cx_X11_strike l g cI cJ cB cZ cL kA vA x im X H.size hX (xs (nI ii + 1).toNatClampNeg)) hXT) (cwV 1 hts (goodIn_app (g_4 (List.mem_cons_of_mem _ (List.mem_append_left _ (List.mem_of_getElem? (i := 182) rfl))) (List.mem_cons_of_mem _ (List.mem_append_left _ (List.mem_of_getElem? (i := 183) rfl))) (List.mem_cons_of_mem _ (List.mem_append_left _ (List.mem_of_getElem? (i := 184) rfl))) (List.mem_cons_of_mem _ (List.mem_append_left _ (List.mem_of_getElem? (i := 3) rfl))) (by decide +kernel)) (goodIn_sub ml_v_X11_strike good_v_X11_strike)) rfl rfl rfl (by decide +kernel) ⟨Nat.le_of_ble_eq_true rfl, Nat.le_of_ble_eq_true rfl⟩) (lc_pre (ci := 10) (q := (RX11, TX11, 11)) hK hE hS hA hP hD rfl (xt_mem hXT)) rfl rfl hl.1 rfl (lv_room (Nat.le_of_ble_eq_true rfl)) dL_law_1256 ⟨(by show (1000 + 2 * ii) + 0 ≤ 600000; omega), (by show (100000 + 25 * ii) + 0 ≤ 7302250; omega)⟩) hS hA hP hD (fun r1256 W1 H locs hz1256 hP hD hS => ?_)
  obtain ⟨hr1256, hW1⟩ := hz1256
  refine lv_pop hx hb dL_law_1259 rfl ?_
  refine lv_aload_n hx hb dL_law_1260 rfl (lv_at hl 2 rfl) ?_
  refine lv_aload_n hx hb dL_law_1261 rfl (lv_at hl 0 rfl) ?_
  refine lv_iload_n hx hb dL_law_1262 rfl (lv_at hl 3 rfl) ?_
  refine lv_iconst (v := 1) hx hb dL_law_1263 (by decide) ?_
  refine lv_iadd hx hb dL_law_1264 ?_
  refine va_sld hx hb hX hbl hbA hS (lw_ix 1 h6 hL (by decide)) dL_law_1265 ?_
  refine lv_topi (nm_r (e' := xs (nI ii + 1).toNatClampNeg) rfl ?_)
  have hP := pm_Pp List.perm_append_comm hP
  have hD := pm_Dp List.perm_append_comm hD
  refine lc_i (X := M) (Rr := W1) (va_runV (As := [.int (xs (nI ii + 1).toNatClampNeg)]) (rest := []) ⟨hx, hb, hml, hown, hts⟩ (cm_X12_strike l g cI cJ cB cZ cL kA vA y M H.size hM (xs (nI ii + 1).toNatClampNeg)) (cwV 1 hts (goodIn_app (g_4 (List.mem_cons_of_mem _ (List.mem_append_left _ (List.mem_of_getElem? (i := 185) rfl))) (List.mem_cons_of_mem _ (List.mem_append_left _ (List.mem_of_getElem? (i := 186) rfl))) (List.mem_cons_of_mem _ (List.mem_append_left _ (List.mem_of_getElem? (i := 187) rfl))) (List.mem_cons_of_mem _ (List.mem_append_left _ (List.mem_of_getElem? (i := 7) rfl))) (by decide +kernel)) (goodIn_sub ml_v_X12_strike good_v_X12_strike)) rfl rfl rfl (by decide +kernel) ⟨Nat.le_of_ble_eq_true rfl, Nat.le_of_ble_eq_true rfl⟩) (lc_pre (ci := 11) (q := (RX12, TX12, 56)) hK hE hS hA hP hD rfl (mt_mem hM)) rfl rfl hl.1 rfl (lv_room (Nat.le_of_ble_eq_true rfl)) dL_law_1266 ⟨(by show (1000 + 2 * ii) + 0 + 0 ≤ 600000; omega), (by show (100000 + 25 * ii) + 0 + 0 ≤ 7302250; omega)⟩) hS hA hP hD (fun r1266 W2 H locs hz1266 hP hD hS => ?_)
  obtain ⟨hr1266, hW2⟩ := hz1266
  have hP := pm_Pp List.perm_append_comm hP
  have hD := pm_Dp List.perm_append_comm hD
  refine lv_pop hx hb dL_law_1269 rfl ?_
  refine lv_goto (tgt := 2459) hx hb dL_law_1270 (by decide) ?_
  refine W.widen (k := 1009 + 2 * ii) (n := 100145 + 25 * ii) (by omega) (by omega) ?_
  exact hend _ _ _ W1 W2 _ _ _ _ _ _ hW1 hW2 hJ hP hD hS hl
set_option maxHeartbeats 4000000 in
set_option maxRecDepth 100000 in
theorem lw_c31 {p : Program} {e : Env} {s : State} {m : MethodId} {below : List Frame} {meth : Method} {c : Code} (l : Launch) {sb L : Nat} {xs : Nat → Int32} (hL : L ≤ 3072) (C0 : lw_At p s m meth c sb L xs) {g : va_G} {cI cJ cB cZ cL : ClassId} (hK : va_K g vwCl (tyT cI cJ cB cZ cL) s) {kA vA : Nat → Nat} (hE : ENV kA vA (fun q : Nat => s.heap.size ≤ q) s) {x y : Nat} {ii : Nat} (h6 : ii + 6 ≤ L) (hend : ∀ (H : Heap) (locs : List Loc) (ls : Array Slot) (XT M : va_W) (sw sn ki mw mn kp : Nat → Int32) (hXT : XTSt cI cJ cB cZ cL x sw sn ki XT) (hM : MSt cI cJ cB cZ cL y mw mn kp M) (hJ : JJ sw sn ki mw mn kp) (hP : va_P g vwCl (XT ++ M) H) (hD : va_D (fun q : Nat => s.heap.size ≤ q) (XT ++ M)) (hS : va_S (fun q : Nat => s.heap.size ≤ q) s.heap H locs) (hl : lv_has ls 4 [(0, .ref sb), (1, .ref x), (2, .ref y), (3, .int (nI ii))]), W p l e room_1 s m #[Value.ref sb] below meth c H locs (1009 + 2 * ii) (100145 + 25 * ii) (lw_Z below #[Value.ref sb] s) (F0 m 2459 ls [])) (H : Heap) (locs : List Loc) (ls : Array Slot) (XT M : va_W) (sw sn ki mw mn kp : Nat → Int32) (hXT : XTSt cI cJ cB cZ cL x sw sn ki XT) (hM : MSt cI cJ cB cZ cL y mw mn kp M) (hJ : JJ sw sn ki mw mn kp) (hP : va_P g vwCl (XT ++ M) H) (hD : va_D (fun q : Nat => s.heap.size ≤ q) (XT ++ M)) (hS : va_S (fun q : Nat => s.heap.size ≤ q) s.heap H locs) (hl : lv_has ls 4 [(0, .ref sb), (1, .ref x), (2, .ref y), (3, .int (nI ii))]) : W p l e room_1 s m #[Value.ref sb] below meth c H locs (1000 + 2 * ii) (100000 + 25 * ii) (lw_Z below #[Value.ref sb] s) (F0 m 1273 ls []) := by
  obtain ⟨hx, hb, hr, hml, hown, hts0, hX, hbl, hlocks, hgv⟩ := id C0
  have hts : ∀ w ∈ v_L_law, w.before #[Value.ref sb] s = true := fun w h => hts0 w (in_v_L_law w h)
  have hown : s.vm.findClass RL = some m.cls := hown
  have hA : ∀ q : Nat, s.heap.size ≤ q → (fun q : Nat => s.heap.size ≤ q) q := fun _ h => h
  have hbA : ¬ (fun q : Nat => s.heap.size ≤ q) sb := Nat.not_le.mpr hbl
  refine lv_aload_n hx hb dL_law_1273 rfl (lv_at hl 1 rfl) ?_
  refine lv_aload_n hx hb dL_law_1274 rfl (lv_at hl 0 rfl) ?_
  refine lv_iload_n hx hb dL_law_1275 rfl (lv_at hl 3 rfl) ?_
  refine lv_iconst (v := 1) hx hb dL_law_1276 (by decide) ?_
  refine lv_iadd hx hb dL_law_1277 ?_
  refine va_sld hx hb hX hbl hbA hS (lw_ix 1 h6 hL (by decide)) dL_law_1278 ?_
  refine lv_topi (nm_r (e' := xs (nI ii + 1).toNatClampNeg) rfl ?_)
  refine lc_i (X := XT) (Rr := M) (va_runV (As := [.int (xs (nI ii + 1).toNatClampNeg)]) (rest := []) ⟨hx, hb, hml, hown, hts⟩ (lift_i (fun im X hX => cx_X11_saves l g cI cJ cB cZ cL kA vA x im X H.size hX (xs (nI ii + 1).toNatClampNeg)) hXT) (cwV 1 hts (goodIn_app (g_4 (List.mem_cons_of_mem _ (List.mem_append_left _ (List.mem_of_getElem? (i := 188) rfl))) (List.mem_cons_of_mem _ (List.mem_append_left _ (List.mem_of_getElem? (i := 189) rfl))) (List.mem_cons_of_mem _ (List.mem_append_left _ (List.mem_of_getElem? (i := 190) rfl))) (List.mem_cons_of_mem _ (List.mem_append_left _ (List.mem_of_getElem? (i := 3) rfl))) (by decide +kernel)) (goodIn_sub ml_v_X11_saves good_v_X11_saves)) rfl rfl rfl (by decide +kernel) ⟨Nat.le_of_ble_eq_true rfl, Nat.le_of_ble_eq_true rfl⟩) (lc_pre (ci := 10) (q := (RX11, TX11, 11)) hK hE hS hA hP hD rfl (xt_mem hXT)) rfl rfl hl.1 rfl (lv_room (Nat.le_of_ble_eq_true rfl)) dL_law_1279 ⟨(by show (1000 + 2 * ii) + 0 ≤ 600000; omega), (by show (100000 + 25 * ii) + 0 ≤ 7302250; omega)⟩) hS hA hP hD (fun r1279 W1 H locs hz1279 hP hD hS => ?_)
  obtain ⟨hr1279, hW1⟩ := hz1279
  refine lv_pop hx hb dL_law_1282 rfl ?_
  refine lv_aload_n hx hb dL_law_1283 rfl (lv_at hl 2 rfl) ?_
  refine lv_aload_n hx hb dL_law_1284 rfl (lv_at hl 0 rfl) ?_
  refine lv_iload_n hx hb dL_law_1285 rfl (lv_at hl 3 rfl) ?_
  refine lv_iconst (v := 1) hx hb dL_law_1286 (by decide) ?_
  refine lv_iadd hx hb dL_law_1287 ?_
  refine va_sld hx hb hX hbl hbA hS (lw_ix 1 h6 hL (by decide)) dL_law_1288 ?_
  refine lv_topi (nm_r (e' := xs (nI ii + 1).toNatClampNeg) rfl ?_)
  have hP := pm_Pp List.perm_append_comm hP
  have hD := pm_Dp List.perm_append_comm hD
  refine lc_i (X := M) (Rr := W1) (va_runV (As := [.int (xs (nI ii + 1).toNatClampNeg)]) (rest := []) ⟨hx, hb, hml, hown, hts⟩ (cm_X12_saves l g cI cJ cB cZ cL kA vA y M H.size hM (xs (nI ii + 1).toNatClampNeg)) (cwV 1 hts (goodIn_app (g_4 (List.mem_cons_of_mem _ (List.mem_append_left _ (List.mem_of_getElem? (i := 191) rfl))) (List.mem_cons_of_mem _ (List.mem_append_left _ (List.mem_of_getElem? (i := 192) rfl))) (List.mem_cons_of_mem _ (List.mem_append_left _ (List.mem_of_getElem? (i := 193) rfl))) (List.mem_cons_of_mem _ (List.mem_append_left _ (List.mem_of_getElem? (i := 7) rfl))) (by decide +kernel)) (goodIn_sub ml_v_X12_saves good_v_X12_saves)) rfl rfl rfl (by decide +kernel) ⟨Nat.le_of_ble_eq_true rfl, Nat.le_of_ble_eq_true rfl⟩) (lc_pre (ci := 11) (q := (RX12, TX12, 56)) hK hE hS hA hP hD rfl (mt_mem hM)) rfl rfl hl.1 rfl (lv_room (Nat.le_of_ble_eq_true rfl)) dL_law_1289 ⟨(by show (1000 + 2 * ii) + 0 + 0 ≤ 600000; omega), (by show (100000 + 25 * ii) + 0 + 0 ≤ 7302250; omega)⟩) hS hA hP hD (fun r1289 W2 H locs hz1289 hP hD hS => ?_)
  obtain ⟨hr1289, hW2⟩ := hz1289
  have hP := pm_Pp List.perm_append_comm hP
  have hD := pm_Dp List.perm_append_comm hD
  refine lv_pop hx hb dL_law_1292 rfl ?_
  refine lv_goto (tgt := 2459) hx hb dL_law_1293 (by decide) ?_
  refine W.widen (k := 1009 + 2 * ii) (n := 100145 + 25 * ii) (by omega) (by omega) ?_
  exact hend _ _ _ W1 W2 _ _ _ _ _ _ hW1 hW2 hJ hP hD hS hl
set_option maxHeartbeats 4000000 in
set_option maxRecDepth 100000 in
theorem lw_c32 {p : Program} {e : Env} {s : State} {m : MethodId} {below : List Frame} {meth : Method} {c : Code} (l : Launch) {sb L : Nat} {xs : Nat → Int32} (hL : L ≤ 3072) (C0 : lw_At p s m meth c sb L xs) {g : va_G} {cI cJ cB cZ cL : ClassId} (hK : va_K g vwCl (tyT cI cJ cB cZ cL) s) {kA vA : Nat → Nat} (hE : ENV kA vA (fun q : Nat => s.heap.size ≤ q) s) {x y : Nat} {ii : Nat} (h6 : ii + 6 ≤ L) (hend : ∀ (H : Heap) (locs : List Loc) (ls : Array Slot) (XT M : va_W) (sw sn ki mw mn kp : Nat → Int32) (hXT : XTSt cI cJ cB cZ cL x sw sn ki XT) (hM : MSt cI cJ cB cZ cL y mw mn kp M) (hJ : JJ sw sn ki mw mn kp) (hP : va_P g vwCl (XT ++ M) H) (hD : va_D (fun q : Nat => s.heap.size ≤ q) (XT ++ M)) (hS : va_S (fun q : Nat => s.heap.size ≤ q) s.heap H locs) (hl : lv_has ls 4 [(0, .ref sb), (1, .ref x), (2, .ref y), (3, .int (nI ii))]), W p l e room_1 s m #[Value.ref sb] below meth c H locs (1009 + 2 * ii) (100145 + 25 * ii) (lw_Z below #[Value.ref sb] s) (F0 m 2459 ls [])) (H : Heap) (locs : List Loc) (ls : Array Slot) (XT M : va_W) (sw sn ki mw mn kp : Nat → Int32) (hXT : XTSt cI cJ cB cZ cL x sw sn ki XT) (hM : MSt cI cJ cB cZ cL y mw mn kp M) (hJ : JJ sw sn ki mw mn kp) (hP : va_P g vwCl (XT ++ M) H) (hD : va_D (fun q : Nat => s.heap.size ≤ q) (XT ++ M)) (hS : va_S (fun q : Nat => s.heap.size ≤ q) s.heap H locs) (hl : lv_has ls 4 [(0, .ref sb), (1, .ref x), (2, .ref y), (3, .int (nI ii))]) : W p l e room_1 s m #[Value.ref sb] below meth c H locs (1000 + 2 * ii) (100000 + 25 * ii) (lw_Z below #[Value.ref sb] s) (F0 m 1296 ls []) := by
  obtain ⟨hx, hb, hr, hml, hown, hts0, hX, hbl, hlocks, hgv⟩ := id C0
  have hts : ∀ w ∈ v_L_law, w.before #[Value.ref sb] s = true := fun w h => hts0 w (in_v_L_law w h)
  have hown : s.vm.findClass RL = some m.cls := hown
  have hA : ∀ q : Nat, s.heap.size ≤ q → (fun q : Nat => s.heap.size ≤ q) q := fun _ h => h
  have hbA : ¬ (fun q : Nat => s.heap.size ≤ q) sb := Nat.not_le.mpr hbl
  refine lv_aload_n hx hb dL_law_1296 rfl (lv_at hl 1 rfl) ?_
  refine lc_i (X := XT) (Rr := M) (va_runV (As := []) (rest := []) ⟨hx, hb, hml, hown, hts⟩ (lift_i (fun im X hX => cx_X11_mildest l g cI cJ cB cZ cL kA vA x im X H.size hX ) hXT) (cwV 0 hts (goodIn_app (g_4 (List.mem_cons_of_mem _ (List.mem_append_left _ (List.mem_of_getElem? (i := 194) rfl))) (List.mem_cons_of_mem _ (List.mem_append_left _ (List.mem_of_getElem? (i := 195) rfl))) (List.mem_cons_of_mem _ (List.mem_append_left _ (List.mem_of_getElem? (i := 196) rfl))) (List.mem_cons_of_mem _ (List.mem_append_left _ (List.mem_of_getElem? (i := 3) rfl))) (by decide +kernel)) (goodIn_sub ml_v_X11_mildest good_v_X11_mildest)) rfl rfl rfl (by decide +kernel) ⟨Nat.le_of_ble_eq_true rfl, Nat.le_of_ble_eq_true rfl⟩) (lc_pre (ci := 10) (q := (RX11, TX11, 11)) hK hE hS hA hP hD rfl (xt_mem hXT)) rfl rfl hl.1 rfl (lv_room (Nat.le_of_ble_eq_true rfl)) dL_law_1297 ⟨(by show (1000 + 2 * ii) + 0 ≤ 600000; omega), (by show (100000 + 25 * ii) + 0 ≤ 7302250; omega)⟩) hS hA hP hD (fun r1297 W1 H locs hz1297 hP hD hS => ?_)
  obtain ⟨hr1297, hW1⟩ := hz1297
  refine lv_pop hx hb dL_law_1300 rfl ?_
  refine lv_aload_n hx hb dL_law_1301 rfl (lv_at hl 2 rfl) ?_
  have hP := pm_Pp List.perm_append_comm hP
  have hD := pm_Dp List.perm_append_comm hD
  refine lc_i (X := M) (Rr := W1) (va_runV (As := []) (rest := []) ⟨hx, hb, hml, hown, hts⟩ (cm_X12_mildest l g cI cJ cB cZ cL kA vA y M H.size hM ) (cwV 0 hts (goodIn_app (g_4 (List.mem_cons_of_mem _ (List.mem_append_left _ (List.mem_of_getElem? (i := 197) rfl))) (List.mem_cons_of_mem _ (List.mem_append_left _ (List.mem_of_getElem? (i := 198) rfl))) (List.mem_cons_of_mem _ (List.mem_append_left _ (List.mem_of_getElem? (i := 199) rfl))) (List.mem_cons_of_mem _ (List.mem_append_left _ (List.mem_of_getElem? (i := 7) rfl))) (by decide +kernel)) (goodIn_sub ml_v_X12_mildest good_v_X12_mildest)) rfl rfl rfl (by decide +kernel) ⟨Nat.le_of_ble_eq_true rfl, Nat.le_of_ble_eq_true rfl⟩) (lc_pre (ci := 11) (q := (RX12, TX12, 56)) hK hE hS hA hP hD rfl (mt_mem hM)) rfl rfl hl.1 rfl (lv_room (Nat.le_of_ble_eq_true rfl)) dL_law_1302 ⟨(by show (1000 + 2 * ii) + 0 + 0 ≤ 600000; omega), (by show (100000 + 25 * ii) + 0 + 0 ≤ 7302250; omega)⟩) hS hA hP hD (fun r1302 W2 H locs hz1302 hP hD hS => ?_)
  obtain ⟨hr1302, hW2⟩ := hz1302
  have hP := pm_Pp List.perm_append_comm hP
  have hD := pm_Dp List.perm_append_comm hD
  refine lv_pop hx hb dL_law_1305 rfl ?_
  refine lv_goto (tgt := 2459) hx hb dL_law_1306 (by decide) ?_
  refine W.widen (k := 1009 + 2 * ii) (n := 100145 + 25 * ii) (by omega) (by omega) ?_
  exact hend _ _ _ W1 W2 _ _ _ _ _ _ hW1 hW2 hJ hP hD hS hl
set_option maxHeartbeats 4000000 in
set_option maxRecDepth 100000 in
theorem lw_c33 {p : Program} {e : Env} {s : State} {m : MethodId} {below : List Frame} {meth : Method} {c : Code} (l : Launch) {sb L : Nat} {xs : Nat → Int32} (hL : L ≤ 3072) (C0 : lw_At p s m meth c sb L xs) {g : va_G} {cI cJ cB cZ cL : ClassId} (hK : va_K g vwCl (tyT cI cJ cB cZ cL) s) {kA vA : Nat → Nat} (hE : ENV kA vA (fun q : Nat => s.heap.size ≤ q) s) {x y : Nat} {ii : Nat} (h6 : ii + 6 ≤ L) (hend : ∀ (H : Heap) (locs : List Loc) (ls : Array Slot) (XT M : va_W) (sw sn ki mw mn kp : Nat → Int32) (hXT : XTSt cI cJ cB cZ cL x sw sn ki XT) (hM : MSt cI cJ cB cZ cL y mw mn kp M) (hJ : JJ sw sn ki mw mn kp) (hP : va_P g vwCl (XT ++ M) H) (hD : va_D (fun q : Nat => s.heap.size ≤ q) (XT ++ M)) (hS : va_S (fun q : Nat => s.heap.size ≤ q) s.heap H locs) (hl : lv_has ls 4 [(0, .ref sb), (1, .ref x), (2, .ref y), (3, .int (nI ii))]), W p l e room_1 s m #[Value.ref sb] below meth c H locs (1009 + 2 * ii) (100145 + 25 * ii) (lw_Z below #[Value.ref sb] s) (F0 m 2459 ls [])) (H : Heap) (locs : List Loc) (ls : Array Slot) (XT M : va_W) (sw sn ki mw mn kp : Nat → Int32) (hXT : XTSt cI cJ cB cZ cL x sw sn ki XT) (hM : MSt cI cJ cB cZ cL y mw mn kp M) (hJ : JJ sw sn ki mw mn kp) (hP : va_P g vwCl (XT ++ M) H) (hD : va_D (fun q : Nat => s.heap.size ≤ q) (XT ++ M)) (hS : va_S (fun q : Nat => s.heap.size ≤ q) s.heap H locs) (hl : lv_has ls 4 [(0, .ref sb), (1, .ref x), (2, .ref y), (3, .int (nI ii))]) : W p l e room_1 s m #[Value.ref sb] below meth c H locs (1000 + 2 * ii) (100000 + 25 * ii) (lw_Z below #[Value.ref sb] s) (F0 m 1309 ls []) := by
  obtain ⟨hx, hb, hr, hml, hown, hts0, hX, hbl, hlocks, hgv⟩ := id C0
  have hts : ∀ w ∈ v_L_law, w.before #[Value.ref sb] s = true := fun w h => hts0 w (in_v_L_law w h)
  have hown : s.vm.findClass RL = some m.cls := hown
  have hA : ∀ q : Nat, s.heap.size ≤ q → (fun q : Nat => s.heap.size ≤ q) q := fun _ h => h
  have hbA : ¬ (fun q : Nat => s.heap.size ≤ q) sb := Nat.not_le.mpr hbl
  refine lv_aload_n hx hb dL_law_1309 rfl (lv_at hl 1 rfl) ?_
  refine lv_aload_n hx hb dL_law_1310 rfl (lv_at hl 0 rfl) ?_
  refine lv_iload_n hx hb dL_law_1311 rfl (lv_at hl 3 rfl) ?_
  refine lv_iconst (v := 1) hx hb dL_law_1312 (by decide) ?_
  refine lv_iadd hx hb dL_law_1313 ?_
  refine va_sld hx hb hX hbl hbA hS (lw_ix 1 h6 hL (by decide)) dL_law_1314 ?_
  refine lv_topi (nm_r (e' := xs (nI ii + 1).toNatClampNeg) rfl ?_)
  refine lv_aload_n hx hb dL_law_1315 rfl (lv_at hl 0 rfl) ?_
  refine lv_iload_n hx hb dL_law_1316 rfl (lv_at hl 3 rfl) ?_
  refine lv_iconst (v := 2) hx hb dL_law_1317 (by decide) ?_
  refine lv_iadd hx hb dL_law_1318 ?_
  refine va_sld hx hb hX hbl hbA hS (lw_ix 2 h6 hL (by decide)) dL_law_1319 ?_
  refine lv_topi (nm_r (e' := xs (nI ii + 2).toNatClampNeg) rfl ?_)
  refine lv_aload_n hx hb dL_law_1320 rfl (lv_at hl 0 rfl) ?_
  refine lv_iload_n hx hb dL_law_1321 rfl (lv_at hl 3 rfl) ?_
  refine lv_iconst (v := 3) hx hb dL_law_1322 (by decide) ?_
  refine lv_iadd hx hb dL_law_1323 ?_
  refine va_sld hx hb hX hbl hbA hS (lw_ix 3 h6 hL (by decide)) dL_law_1324 ?_
  refine lv_topi (nm_r (e' := xs (nI ii + 3).toNatClampNeg) rfl ?_)
  refine lc_l (X := XT) (Rr := M) (va_runV (As := [.int (xs (nI ii + 1).toNatClampNeg), .int (xs (nI ii + 2).toNatClampNeg), .int (xs (nI ii + 3).toNatClampNeg)]) (rest := []) ⟨hx, hb, hml, hown, hts⟩ (lift_l (fun im X hX => cx_X11_alive l g cI cJ cB cZ cL kA vA x im X H.size hX (xs (nI ii + 1).toNatClampNeg) (xs (nI ii + 2).toNatClampNeg) (xs (nI ii + 3).toNatClampNeg)) hXT) (cwV 3 hts (goodIn_app (g_4 (List.mem_cons_of_mem _ (List.mem_append_left _ (List.mem_of_getElem? (i := 200) rfl))) (List.mem_cons_of_mem _ (List.mem_append_left _ (List.mem_of_getElem? (i := 201) rfl))) (List.mem_cons_of_mem _ (List.mem_append_left _ (List.mem_of_getElem? (i := 202) rfl))) (List.mem_cons_of_mem _ (List.mem_append_left _ (List.mem_of_getElem? (i := 3) rfl))) (by decide +kernel)) (goodIn_sub ml_v_X11_alive good_v_X11_alive)) rfl rfl rfl (by decide +kernel) ⟨Nat.le_of_ble_eq_true rfl, Nat.le_of_ble_eq_true rfl⟩) (lc_pre (ci := 10) (q := (RX11, TX11, 11)) hK hE hS hA hP hD rfl (xt_mem hXT)) rfl rfl hl.1 rfl (lv_room (Nat.le_of_ble_eq_true rfl)) dL_law_1325 ⟨(by show (1000 + 2 * ii) + 0 ≤ 600000; omega), (by show (100000 + 25 * ii) + 0 ≤ 7302250; omega)⟩) hS hA hP hD (fun r1325 W1 H locs hz1325 hP hD hS => ?_)
  obtain ⟨hr1325, hW1⟩ := hz1325
  refine lv_pop2_2 hx hb dL_law_1328 rfl ?_
  refine lv_aload_n hx hb dL_law_1329 rfl (lv_at hl 2 rfl) ?_
  refine lv_aload_n hx hb dL_law_1330 rfl (lv_at hl 0 rfl) ?_
  refine lv_iload_n hx hb dL_law_1331 rfl (lv_at hl 3 rfl) ?_
  refine lv_iconst (v := 1) hx hb dL_law_1332 (by decide) ?_
  refine lv_iadd hx hb dL_law_1333 ?_
  refine va_sld hx hb hX hbl hbA hS (lw_ix 1 h6 hL (by decide)) dL_law_1334 ?_
  refine lv_topi (nm_r (e' := xs (nI ii + 1).toNatClampNeg) rfl ?_)
  refine lv_aload_n hx hb dL_law_1335 rfl (lv_at hl 0 rfl) ?_
  refine lv_iload_n hx hb dL_law_1336 rfl (lv_at hl 3 rfl) ?_
  refine lv_iconst (v := 2) hx hb dL_law_1337 (by decide) ?_
  refine lv_iadd hx hb dL_law_1338 ?_
  refine va_sld hx hb hX hbl hbA hS (lw_ix 2 h6 hL (by decide)) dL_law_1339 ?_
  refine lv_topi (nm_r (e' := xs (nI ii + 2).toNatClampNeg) rfl ?_)
  refine lv_aload_n hx hb dL_law_1340 rfl (lv_at hl 0 rfl) ?_
  refine lv_iload_n hx hb dL_law_1341 rfl (lv_at hl 3 rfl) ?_
  refine lv_iconst (v := 3) hx hb dL_law_1342 (by decide) ?_
  refine lv_iadd hx hb dL_law_1343 ?_
  refine va_sld hx hb hX hbl hbA hS (lw_ix 3 h6 hL (by decide)) dL_law_1344 ?_
  refine lv_topi (nm_r (e' := xs (nI ii + 3).toNatClampNeg) rfl ?_)
  have hP := pm_Pp List.perm_append_comm hP
  have hD := pm_Dp List.perm_append_comm hD
  refine lc_l (X := M) (Rr := W1) (va_runV (As := [.int (xs (nI ii + 1).toNatClampNeg), .int (xs (nI ii + 2).toNatClampNeg), .int (xs (nI ii + 3).toNatClampNeg)]) (rest := []) ⟨hx, hb, hml, hown, hts⟩ (cm_X12_alive l g cI cJ cB cZ cL kA vA y M H.size hM (xs (nI ii + 1).toNatClampNeg) (xs (nI ii + 2).toNatClampNeg) (xs (nI ii + 3).toNatClampNeg)) (cwV 3 hts (goodIn_app (g_4 (List.mem_cons_of_mem _ (List.mem_append_left _ (List.mem_of_getElem? (i := 203) rfl))) (List.mem_cons_of_mem _ (List.mem_append_left _ (List.mem_of_getElem? (i := 204) rfl))) (List.mem_cons_of_mem _ (List.mem_append_left _ (List.mem_of_getElem? (i := 205) rfl))) (List.mem_cons_of_mem _ (List.mem_append_left _ (List.mem_of_getElem? (i := 7) rfl))) (by decide +kernel)) (goodIn_sub ml_v_X12_alive good_v_X12_alive)) rfl rfl rfl (by decide +kernel) ⟨Nat.le_of_ble_eq_true rfl, Nat.le_of_ble_eq_true rfl⟩) (lc_pre (ci := 11) (q := (RX12, TX12, 56)) hK hE hS hA hP hD rfl (mt_mem hM)) rfl rfl hl.1 rfl (lv_room (Nat.le_of_ble_eq_true rfl)) dL_law_1345 ⟨(by show (1000 + 2 * ii) + 0 + 0 ≤ 600000; omega), (by show (100000 + 25 * ii) + 0 + 0 ≤ 7302250; omega)⟩) hS hA hP hD (fun r1345 W2 H locs hz1345 hP hD hS => ?_)
  obtain ⟨hr1345, hW2⟩ := hz1345
  have hP := pm_Pp List.perm_append_comm hP
  have hD := pm_Dp List.perm_append_comm hD
  refine lv_pop2_2 hx hb dL_law_1348 rfl ?_
  refine lv_goto (tgt := 2459) hx hb dL_law_1349 (by decide) ?_
  refine W.widen (k := 1009 + 2 * ii) (n := 100145 + 25 * ii) (by omega) (by omega) ?_
  exact hend _ _ _ W1 W2 _ _ _ _ _ _ hW1 hW2 hJ hP hD hS hl
set_option maxHeartbeats 4000000 in
set_option maxRecDepth 100000 in
theorem lw_c34 {p : Program} {e : Env} {s : State} {m : MethodId} {below : List Frame} {meth : Method} {c : Code} (l : Launch) {sb L : Nat} {xs : Nat → Int32} (hL : L ≤ 3072) (C0 : lw_At p s m meth c sb L xs) {g : va_G} {cI cJ cB cZ cL : ClassId} (hK : va_K g vwCl (tyT cI cJ cB cZ cL) s) {kA vA : Nat → Nat} (hE : ENV kA vA (fun q : Nat => s.heap.size ≤ q) s) {x y : Nat} {ii : Nat} (h6 : ii + 6 ≤ L) (hend : ∀ (H : Heap) (locs : List Loc) (ls : Array Slot) (XT M : va_W) (sw sn ki mw mn kp : Nat → Int32) (hXT : XTSt cI cJ cB cZ cL x sw sn ki XT) (hM : MSt cI cJ cB cZ cL y mw mn kp M) (hJ : JJ sw sn ki mw mn kp) (hP : va_P g vwCl (XT ++ M) H) (hD : va_D (fun q : Nat => s.heap.size ≤ q) (XT ++ M)) (hS : va_S (fun q : Nat => s.heap.size ≤ q) s.heap H locs) (hl : lv_has ls 4 [(0, .ref sb), (1, .ref x), (2, .ref y), (3, .int (nI ii))]), W p l e room_1 s m #[Value.ref sb] below meth c H locs (1009 + 2 * ii) (100145 + 25 * ii) (lw_Z below #[Value.ref sb] s) (F0 m 2459 ls [])) (H : Heap) (locs : List Loc) (ls : Array Slot) (XT M : va_W) (sw sn ki mw mn kp : Nat → Int32) (hXT : XTSt cI cJ cB cZ cL x sw sn ki XT) (hM : MSt cI cJ cB cZ cL y mw mn kp M) (hJ : JJ sw sn ki mw mn kp) (hP : va_P g vwCl (XT ++ M) H) (hD : va_D (fun q : Nat => s.heap.size ≤ q) (XT ++ M)) (hS : va_S (fun q : Nat => s.heap.size ≤ q) s.heap H locs) (hl : lv_has ls 4 [(0, .ref sb), (1, .ref x), (2, .ref y), (3, .int (nI ii))]) : W p l e room_1 s m #[Value.ref sb] below meth c H locs (1000 + 2 * ii) (100000 + 25 * ii) (lw_Z below #[Value.ref sb] s) (F0 m 1352 ls []) := by
  obtain ⟨hx, hb, hr, hml, hown, hts0, hX, hbl, hlocks, hgv⟩ := id C0
  have hts : ∀ w ∈ v_L_law, w.before #[Value.ref sb] s = true := fun w h => hts0 w (in_v_L_law w h)
  have hown : s.vm.findClass RL = some m.cls := hown
  have hA : ∀ q : Nat, s.heap.size ≤ q → (fun q : Nat => s.heap.size ≤ q) q := fun _ h => h
  have hbA : ¬ (fun q : Nat => s.heap.size ≤ q) sb := Nat.not_le.mpr hbl
  refine lv_aload_n hx hb dL_law_1352 rfl (lv_at hl 1 rfl) ?_
  refine lv_aload_n hx hb dL_law_1353 rfl (lv_at hl 0 rfl) ?_
  refine lv_iload_n hx hb dL_law_1354 rfl (lv_at hl 3 rfl) ?_
  refine lv_iconst (v := 1) hx hb dL_law_1355 (by decide) ?_
  refine lv_iadd hx hb dL_law_1356 ?_
  refine va_sld hx hb hX hbl hbA hS (lw_ix 1 h6 hL (by decide)) dL_law_1357 ?_
  refine lv_topi (nm_r (e' := xs (nI ii + 1).toNatClampNeg) rfl ?_)
  refine lv_aload_n hx hb dL_law_1358 rfl (lv_at hl 0 rfl) ?_
  refine lv_iload_n hx hb dL_law_1359 rfl (lv_at hl 3 rfl) ?_
  refine lv_iconst (v := 2) hx hb dL_law_1360 (by decide) ?_
  refine lv_iadd hx hb dL_law_1361 ?_
  refine va_sld hx hb hX hbl hbA hS (lw_ix 2 h6 hL (by decide)) dL_law_1362 ?_
  refine lv_topi (nm_r (e' := xs (nI ii + 2).toNatClampNeg) rfl ?_)
  refine lv_aload_n hx hb dL_law_1363 rfl (lv_at hl 0 rfl) ?_
  refine lv_iload_n hx hb dL_law_1364 rfl (lv_at hl 3 rfl) ?_
  refine lv_iconst (v := 3) hx hb dL_law_1365 (by decide) ?_
  refine lv_iadd hx hb dL_law_1366 ?_
  refine va_sld hx hb hX hbl hbA hS (lw_ix 3 h6 hL (by decide)) dL_law_1367 ?_
  refine lv_topi (nm_r (e' := xs (nI ii + 3).toNatClampNeg) rfl ?_)
  refine lc_l (X := XT) (Rr := M) (va_runV (As := [.int (xs (nI ii + 1).toNatClampNeg), .int (xs (nI ii + 2).toNatClampNeg), .int (xs (nI ii + 3).toNatClampNeg)]) (rest := []) ⟨hx, hb, hml, hown, hts⟩ (lift_l (fun im X hX => cx_X11_both l g cI cJ cB cZ cL kA vA x im X H.size hX (xs (nI ii + 1).toNatClampNeg) (xs (nI ii + 2).toNatClampNeg) (xs (nI ii + 3).toNatClampNeg)) hXT) (cwV 3 hts (goodIn_app (g_4 (List.mem_cons_of_mem _ (List.mem_append_left _ (List.mem_of_getElem? (i := 206) rfl))) (List.mem_cons_of_mem _ (List.mem_append_left _ (List.mem_of_getElem? (i := 207) rfl))) (List.mem_cons_of_mem _ (List.mem_append_left _ (List.mem_of_getElem? (i := 208) rfl))) (List.mem_cons_of_mem _ (List.mem_append_left _ (List.mem_of_getElem? (i := 3) rfl))) (by decide +kernel)) (goodIn_sub ml_v_X11_both good_v_X11_both)) rfl rfl rfl (by decide +kernel) ⟨Nat.le_of_ble_eq_true rfl, Nat.le_of_ble_eq_true rfl⟩) (lc_pre (ci := 10) (q := (RX11, TX11, 11)) hK hE hS hA hP hD rfl (xt_mem hXT)) rfl rfl hl.1 rfl (lv_room (Nat.le_of_ble_eq_true rfl)) dL_law_1368 ⟨(by show (1000 + 2 * ii) + 0 ≤ 600000; omega), (by show (100000 + 25 * ii) + 0 ≤ 7302250; omega)⟩) hS hA hP hD (fun r1368 W1 H locs hz1368 hP hD hS => ?_)
  obtain ⟨hr1368, hW1⟩ := hz1368
  refine lv_pop2_2 hx hb dL_law_1371 rfl ?_
  refine lv_aload_n hx hb dL_law_1372 rfl (lv_at hl 2 rfl) ?_
  refine lv_aload_n hx hb dL_law_1373 rfl (lv_at hl 0 rfl) ?_
  refine lv_iload_n hx hb dL_law_1374 rfl (lv_at hl 3 rfl) ?_
  refine lv_iconst (v := 1) hx hb dL_law_1375 (by decide) ?_
  refine lv_iadd hx hb dL_law_1376 ?_
  refine va_sld hx hb hX hbl hbA hS (lw_ix 1 h6 hL (by decide)) dL_law_1377 ?_
  refine lv_topi (nm_r (e' := xs (nI ii + 1).toNatClampNeg) rfl ?_)
  refine lv_aload_n hx hb dL_law_1378 rfl (lv_at hl 0 rfl) ?_
  refine lv_iload_n hx hb dL_law_1379 rfl (lv_at hl 3 rfl) ?_
  refine lv_iconst (v := 2) hx hb dL_law_1380 (by decide) ?_
  refine lv_iadd hx hb dL_law_1381 ?_
  refine va_sld hx hb hX hbl hbA hS (lw_ix 2 h6 hL (by decide)) dL_law_1382 ?_
  refine lv_topi (nm_r (e' := xs (nI ii + 2).toNatClampNeg) rfl ?_)
  refine lv_aload_n hx hb dL_law_1383 rfl (lv_at hl 0 rfl) ?_
  refine lv_iload_n hx hb dL_law_1384 rfl (lv_at hl 3 rfl) ?_
  refine lv_iconst (v := 3) hx hb dL_law_1385 (by decide) ?_
  refine lv_iadd hx hb dL_law_1386 ?_
  refine va_sld hx hb hX hbl hbA hS (lw_ix 3 h6 hL (by decide)) dL_law_1387 ?_
  refine lv_topi (nm_r (e' := xs (nI ii + 3).toNatClampNeg) rfl ?_)
  have hP := pm_Pp List.perm_append_comm hP
  have hD := pm_Dp List.perm_append_comm hD
  refine lc_l (X := M) (Rr := W1) (va_runV (As := [.int (xs (nI ii + 1).toNatClampNeg), .int (xs (nI ii + 2).toNatClampNeg), .int (xs (nI ii + 3).toNatClampNeg)]) (rest := []) ⟨hx, hb, hml, hown, hts⟩ (cm_X12_both l g cI cJ cB cZ cL kA vA y M H.size hM (xs (nI ii + 1).toNatClampNeg) (xs (nI ii + 2).toNatClampNeg) (xs (nI ii + 3).toNatClampNeg)) (cwV 3 hts (goodIn_app (g_4 (List.mem_cons_of_mem _ (List.mem_append_left _ (List.mem_of_getElem? (i := 209) rfl))) (List.mem_cons_of_mem _ (List.mem_append_left _ (List.mem_of_getElem? (i := 210) rfl))) (List.mem_cons_of_mem _ (List.mem_append_left _ (List.mem_of_getElem? (i := 211) rfl))) (List.mem_cons_of_mem _ (List.mem_append_left _ (List.mem_of_getElem? (i := 7) rfl))) (by decide +kernel)) (goodIn_sub ml_v_X12_both good_v_X12_both)) rfl rfl rfl (by decide +kernel) ⟨Nat.le_of_ble_eq_true rfl, Nat.le_of_ble_eq_true rfl⟩) (lc_pre (ci := 11) (q := (RX12, TX12, 56)) hK hE hS hA hP hD rfl (mt_mem hM)) rfl rfl hl.1 rfl (lv_room (Nat.le_of_ble_eq_true rfl)) dL_law_1388 ⟨(by show (1000 + 2 * ii) + 0 + 0 ≤ 600000; omega), (by show (100000 + 25 * ii) + 0 + 0 ≤ 7302250; omega)⟩) hS hA hP hD (fun r1388 W2 H locs hz1388 hP hD hS => ?_)
  obtain ⟨hr1388, hW2⟩ := hz1388
  have hP := pm_Pp List.perm_append_comm hP
  have hD := pm_Dp List.perm_append_comm hD
  refine lv_pop2_2 hx hb dL_law_1391 rfl ?_
  refine lv_goto (tgt := 2459) hx hb dL_law_1392 (by decide) ?_
  refine W.widen (k := 1009 + 2 * ii) (n := 100145 + 25 * ii) (by omega) (by omega) ?_
  exact hend _ _ _ W1 W2 _ _ _ _ _ _ hW1 hW2 hJ hP hD hS hl
set_option maxHeartbeats 4000000 in
set_option maxRecDepth 100000 in
theorem lw_c35 {p : Program} {e : Env} {s : State} {m : MethodId} {below : List Frame} {meth : Method} {c : Code} (l : Launch) {sb L : Nat} {xs : Nat → Int32} (hL : L ≤ 3072) (C0 : lw_At p s m meth c sb L xs) {g : va_G} {cI cJ cB cZ cL : ClassId} (hK : va_K g vwCl (tyT cI cJ cB cZ cL) s) {kA vA : Nat → Nat} (hE : ENV kA vA (fun q : Nat => s.heap.size ≤ q) s) {x y : Nat} {ii : Nat} (h6 : ii + 6 ≤ L) (hend : ∀ (H : Heap) (locs : List Loc) (ls : Array Slot) (XT M : va_W) (sw sn ki mw mn kp : Nat → Int32) (hXT : XTSt cI cJ cB cZ cL x sw sn ki XT) (hM : MSt cI cJ cB cZ cL y mw mn kp M) (hJ : JJ sw sn ki mw mn kp) (hP : va_P g vwCl (XT ++ M) H) (hD : va_D (fun q : Nat => s.heap.size ≤ q) (XT ++ M)) (hS : va_S (fun q : Nat => s.heap.size ≤ q) s.heap H locs) (hl : lv_has ls 4 [(0, .ref sb), (1, .ref x), (2, .ref y), (3, .int (nI ii))]), W p l e room_1 s m #[Value.ref sb] below meth c H locs (1009 + 2 * ii) (100145 + 25 * ii) (lw_Z below #[Value.ref sb] s) (F0 m 2459 ls [])) (H : Heap) (locs : List Loc) (ls : Array Slot) (XT M : va_W) (sw sn ki mw mn kp : Nat → Int32) (hXT : XTSt cI cJ cB cZ cL x sw sn ki XT) (hM : MSt cI cJ cB cZ cL y mw mn kp M) (hJ : JJ sw sn ki mw mn kp) (hP : va_P g vwCl (XT ++ M) H) (hD : va_D (fun q : Nat => s.heap.size ≤ q) (XT ++ M)) (hS : va_S (fun q : Nat => s.heap.size ≤ q) s.heap H locs) (hl : lv_has ls 4 [(0, .ref sb), (1, .ref x), (2, .ref y), (3, .int (nI ii))]) : W p l e room_1 s m #[Value.ref sb] below meth c H locs (1000 + 2 * ii) (100000 + 25 * ii) (lw_Z below #[Value.ref sb] s) (F0 m 1395 ls []) := by
  obtain ⟨hx, hb, hr, hml, hown, hts0, hX, hbl, hlocks, hgv⟩ := id C0
  have hts : ∀ w ∈ v_L_law, w.before #[Value.ref sb] s = true := fun w h => hts0 w (in_v_L_law w h)
  have hown : s.vm.findClass RL = some m.cls := hown
  have hA : ∀ q : Nat, s.heap.size ≤ q → (fun q : Nat => s.heap.size ≤ q) q := fun _ h => h
  have hbA : ¬ (fun q : Nat => s.heap.size ≤ q) sb := Nat.not_le.mpr hbl
  refine lv_aload_n hx hb dL_law_1395 rfl (lv_at hl 1 rfl) ?_
  refine lv_aload_n hx hb dL_law_1396 rfl (lv_at hl 0 rfl) ?_
  refine lv_iload_n hx hb dL_law_1397 rfl (lv_at hl 3 rfl) ?_
  refine lv_iconst (v := 1) hx hb dL_law_1398 (by decide) ?_
  refine lv_iadd hx hb dL_law_1399 ?_
  refine va_sld hx hb hX hbl hbA hS (lw_ix 1 h6 hL (by decide)) dL_law_1400 ?_
  refine lv_topi (nm_r (e' := xs (nI ii + 1).toNatClampNeg) rfl ?_)
  refine lv_aload_n hx hb dL_law_1401 rfl (lv_at hl 0 rfl) ?_
  refine lv_iload_n hx hb dL_law_1402 rfl (lv_at hl 3 rfl) ?_
  refine lv_iconst (v := 2) hx hb dL_law_1403 (by decide) ?_
  refine lv_iadd hx hb dL_law_1404 ?_
  refine va_sld hx hb hX hbl hbA hS (lw_ix 2 h6 hL (by decide)) dL_law_1405 ?_
  refine lv_topi (nm_r (e' := xs (nI ii + 2).toNatClampNeg) rfl ?_)
  refine lv_aload_n hx hb dL_law_1406 rfl (lv_at hl 0 rfl) ?_
  refine lv_iload_n hx hb dL_law_1407 rfl (lv_at hl 3 rfl) ?_
  refine lv_iconst (v := 3) hx hb dL_law_1408 (by decide) ?_
  refine lv_iadd hx hb dL_law_1409 ?_
  refine va_sld hx hb hX hbl hbA hS (lw_ix 3 h6 hL (by decide)) dL_law_1410 ?_
  refine lv_topi (nm_r (e' := xs (nI ii + 3).toNatClampNeg) rfl ?_)
  refine lc_l (X := XT) (Rr := M) (va_runV (As := [.int (xs (nI ii + 1).toNatClampNeg), .int (xs (nI ii + 2).toNatClampNeg), .int (xs (nI ii + 3).toNatClampNeg)]) (rest := []) ⟨hx, hb, hml, hown, hts⟩ (lift_l (fun im X hX => cx_X11_mean l g cI cJ cB cZ cL kA vA x im X H.size hX (xs (nI ii + 1).toNatClampNeg) (xs (nI ii + 2).toNatClampNeg) (xs (nI ii + 3).toNatClampNeg)) hXT) (cwV 3 hts (goodIn_app (g_4 (List.mem_cons_of_mem _ (List.mem_append_left _ (List.mem_of_getElem? (i := 212) rfl))) (List.mem_cons_of_mem _ (List.mem_append_left _ (List.mem_of_getElem? (i := 213) rfl))) (List.mem_cons_of_mem _ (List.mem_append_left _ (List.mem_of_getElem? (i := 214) rfl))) (List.mem_cons_of_mem _ (List.mem_append_left _ (List.mem_of_getElem? (i := 3) rfl))) (by decide +kernel)) (goodIn_sub ml_v_X11_mean good_v_X11_mean)) rfl rfl rfl (by decide +kernel) ⟨Nat.le_of_ble_eq_true rfl, Nat.le_of_ble_eq_true rfl⟩) (lc_pre (ci := 10) (q := (RX11, TX11, 11)) hK hE hS hA hP hD rfl (xt_mem hXT)) rfl rfl hl.1 rfl (lv_room (Nat.le_of_ble_eq_true rfl)) dL_law_1411 ⟨(by show (1000 + 2 * ii) + 0 ≤ 600000; omega), (by show (100000 + 25 * ii) + 0 ≤ 7302250; omega)⟩) hS hA hP hD (fun r1411 W1 H locs hz1411 hP hD hS => ?_)
  obtain ⟨hr1411, hW1⟩ := hz1411
  refine lv_pop2_2 hx hb dL_law_1414 rfl ?_
  refine lv_aload_n hx hb dL_law_1415 rfl (lv_at hl 2 rfl) ?_
  refine lv_aload_n hx hb dL_law_1416 rfl (lv_at hl 0 rfl) ?_
  refine lv_iload_n hx hb dL_law_1417 rfl (lv_at hl 3 rfl) ?_
  refine lv_iconst (v := 1) hx hb dL_law_1418 (by decide) ?_
  refine lv_iadd hx hb dL_law_1419 ?_
  refine va_sld hx hb hX hbl hbA hS (lw_ix 1 h6 hL (by decide)) dL_law_1420 ?_
  refine lv_topi (nm_r (e' := xs (nI ii + 1).toNatClampNeg) rfl ?_)
  refine lv_aload_n hx hb dL_law_1421 rfl (lv_at hl 0 rfl) ?_
  refine lv_iload_n hx hb dL_law_1422 rfl (lv_at hl 3 rfl) ?_
  refine lv_iconst (v := 2) hx hb dL_law_1423 (by decide) ?_
  refine lv_iadd hx hb dL_law_1424 ?_
  refine va_sld hx hb hX hbl hbA hS (lw_ix 2 h6 hL (by decide)) dL_law_1425 ?_
  refine lv_topi (nm_r (e' := xs (nI ii + 2).toNatClampNeg) rfl ?_)
  refine lv_aload_n hx hb dL_law_1426 rfl (lv_at hl 0 rfl) ?_
  refine lv_iload_n hx hb dL_law_1427 rfl (lv_at hl 3 rfl) ?_
  refine lv_iconst (v := 3) hx hb dL_law_1428 (by decide) ?_
  refine lv_iadd hx hb dL_law_1429 ?_
  refine va_sld hx hb hX hbl hbA hS (lw_ix 3 h6 hL (by decide)) dL_law_1430 ?_
  refine lv_topi (nm_r (e' := xs (nI ii + 3).toNatClampNeg) rfl ?_)
  have hP := pm_Pp List.perm_append_comm hP
  have hD := pm_Dp List.perm_append_comm hD
  refine lc_l (X := M) (Rr := W1) (va_runV (As := [.int (xs (nI ii + 1).toNatClampNeg), .int (xs (nI ii + 2).toNatClampNeg), .int (xs (nI ii + 3).toNatClampNeg)]) (rest := []) ⟨hx, hb, hml, hown, hts⟩ (cm_X12_mean l g cI cJ cB cZ cL kA vA y M H.size hM (xs (nI ii + 1).toNatClampNeg) (xs (nI ii + 2).toNatClampNeg) (xs (nI ii + 3).toNatClampNeg)) (cwV 3 hts (goodIn_app (g_4 (List.mem_cons_of_mem _ (List.mem_append_left _ (List.mem_of_getElem? (i := 215) rfl))) (List.mem_cons_of_mem _ (List.mem_append_left _ (List.mem_of_getElem? (i := 216) rfl))) (List.mem_cons_of_mem _ (List.mem_append_left _ (List.mem_of_getElem? (i := 217) rfl))) (List.mem_cons_of_mem _ (List.mem_append_left _ (List.mem_of_getElem? (i := 7) rfl))) (by decide +kernel)) (goodIn_sub ml_v_X12_mean good_v_X12_mean)) rfl rfl rfl (by decide +kernel) ⟨Nat.le_of_ble_eq_true rfl, Nat.le_of_ble_eq_true rfl⟩) (lc_pre (ci := 11) (q := (RX12, TX12, 56)) hK hE hS hA hP hD rfl (mt_mem hM)) rfl rfl hl.1 rfl (lv_room (Nat.le_of_ble_eq_true rfl)) dL_law_1431 ⟨(by show (1000 + 2 * ii) + 0 + 0 ≤ 600000; omega), (by show (100000 + 25 * ii) + 0 + 0 ≤ 7302250; omega)⟩) hS hA hP hD (fun r1431 W2 H locs hz1431 hP hD hS => ?_)
  obtain ⟨hr1431, hW2⟩ := hz1431
  have hP := pm_Pp List.perm_append_comm hP
  have hD := pm_Dp List.perm_append_comm hD
  refine lv_pop2_2 hx hb dL_law_1434 rfl ?_
  refine lv_goto (tgt := 2459) hx hb dL_law_1435 (by decide) ?_
  refine W.widen (k := 1009 + 2 * ii) (n := 100145 + 25 * ii) (by omega) (by omega) ?_
  exact hend _ _ _ W1 W2 _ _ _ _ _ _ hW1 hW2 hJ hP hD hS hl
set_option maxHeartbeats 4000000 in
set_option maxRecDepth 100000 in
theorem lw_c36 {p : Program} {e : Env} {s : State} {m : MethodId} {below : List Frame} {meth : Method} {c : Code} (l : Launch) {sb L : Nat} {xs : Nat → Int32} (hL : L ≤ 3072) (C0 : lw_At p s m meth c sb L xs) {g : va_G} {cI cJ cB cZ cL : ClassId} (hK : va_K g vwCl (tyT cI cJ cB cZ cL) s) {kA vA : Nat → Nat} (hE : ENV kA vA (fun q : Nat => s.heap.size ≤ q) s) {x y : Nat} {ii : Nat} (h6 : ii + 6 ≤ L) (hend : ∀ (H : Heap) (locs : List Loc) (ls : Array Slot) (XT M : va_W) (sw sn ki mw mn kp : Nat → Int32) (hXT : XTSt cI cJ cB cZ cL x sw sn ki XT) (hM : MSt cI cJ cB cZ cL y mw mn kp M) (hJ : JJ sw sn ki mw mn kp) (hP : va_P g vwCl (XT ++ M) H) (hD : va_D (fun q : Nat => s.heap.size ≤ q) (XT ++ M)) (hS : va_S (fun q : Nat => s.heap.size ≤ q) s.heap H locs) (hl : lv_has ls 4 [(0, .ref sb), (1, .ref x), (2, .ref y), (3, .int (nI ii))]), W p l e room_1 s m #[Value.ref sb] below meth c H locs (1009 + 2 * ii) (100145 + 25 * ii) (lw_Z below #[Value.ref sb] s) (F0 m 2459 ls [])) (H : Heap) (locs : List Loc) (ls : Array Slot) (XT M : va_W) (sw sn ki mw mn kp : Nat → Int32) (hXT : XTSt cI cJ cB cZ cL x sw sn ki XT) (hM : MSt cI cJ cB cZ cL y mw mn kp M) (hJ : JJ sw sn ki mw mn kp) (hP : va_P g vwCl (XT ++ M) H) (hD : va_D (fun q : Nat => s.heap.size ≤ q) (XT ++ M)) (hS : va_S (fun q : Nat => s.heap.size ≤ q) s.heap H locs) (hl : lv_has ls 4 [(0, .ref sb), (1, .ref x), (2, .ref y), (3, .int (nI ii))]) : W p l e room_1 s m #[Value.ref sb] below meth c H locs (1000 + 2 * ii) (100000 + 25 * ii) (lw_Z below #[Value.ref sb] s) (F0 m 1438 ls []) := by
  obtain ⟨hx, hb, hr, hml, hown, hts0, hX, hbl, hlocks, hgv⟩ := id C0
  have hts : ∀ w ∈ v_L_law, w.before #[Value.ref sb] s = true := fun w h => hts0 w (in_v_L_law w h)
  have hown : s.vm.findClass RL = some m.cls := hown
  have hA : ∀ q : Nat, s.heap.size ≤ q → (fun q : Nat => s.heap.size ≤ q) q := fun _ h => h
  have hbA : ¬ (fun q : Nat => s.heap.size ≤ q) sb := Nat.not_le.mpr hbl
  refine lv_aload_n hx hb dL_law_1438 rfl (lv_at hl 1 rfl) ?_
  refine lv_aload_n hx hb dL_law_1439 rfl (lv_at hl 0 rfl) ?_
  refine lv_iload_n hx hb dL_law_1440 rfl (lv_at hl 3 rfl) ?_
  refine lv_iconst (v := 1) hx hb dL_law_1441 (by decide) ?_
  refine lv_iadd hx hb dL_law_1442 ?_
  refine va_sld hx hb hX hbl hbA hS (lw_ix 1 h6 hL (by decide)) dL_law_1443 ?_
  refine lv_topi (nm_r (e' := xs (nI ii + 1).toNatClampNeg) rfl ?_)
  refine lv_aload_n hx hb dL_law_1444 rfl (lv_at hl 0 rfl) ?_
  refine lv_iload_n hx hb dL_law_1445 rfl (lv_at hl 3 rfl) ?_
  refine lv_iconst (v := 2) hx hb dL_law_1446 (by decide) ?_
  refine lv_iadd hx hb dL_law_1447 ?_
  refine va_sld hx hb hX hbl hbA hS (lw_ix 2 h6 hL (by decide)) dL_law_1448 ?_
  refine lv_topi (nm_r (e' := xs (nI ii + 2).toNatClampNeg) rfl ?_)
  refine lv_aload_n hx hb dL_law_1449 rfl (lv_at hl 0 rfl) ?_
  refine lv_iload_n hx hb dL_law_1450 rfl (lv_at hl 3 rfl) ?_
  refine lv_iconst (v := 3) hx hb dL_law_1451 (by decide) ?_
  refine lv_iadd hx hb dL_law_1452 ?_
  refine va_sld hx hb hX hbl hbA hS (lw_ix 3 h6 hL (by decide)) dL_law_1453 ?_
  refine lv_topi (nm_r (e' := xs (nI ii + 3).toNatClampNeg) rfl ?_)
  refine lc_i (X := XT) (Rr := M) (va_runV (As := [.int (xs (nI ii + 1).toNatClampNeg), .int (xs (nI ii + 2).toNatClampNeg), .int (xs (nI ii + 3).toNatClampNeg)]) (rest := []) ⟨hx, hb, hml, hown, hts⟩ (lift_i (fun im X hX => cx_X11_ending l g cI cJ cB cZ cL kA vA x im X H.size hX (xs (nI ii + 1).toNatClampNeg) (xs (nI ii + 2).toNatClampNeg) (xs (nI ii + 3).toNatClampNeg)) hXT) (cwV 3 hts (goodIn_app (g_4 (List.mem_cons_of_mem _ (List.mem_append_left _ (List.mem_of_getElem? (i := 218) rfl))) (List.mem_cons_of_mem _ (List.mem_append_left _ (List.mem_of_getElem? (i := 219) rfl))) (List.mem_cons_of_mem _ (List.mem_append_left _ (List.mem_of_getElem? (i := 220) rfl))) (List.mem_cons_of_mem _ (List.mem_append_left _ (List.mem_of_getElem? (i := 3) rfl))) (by decide +kernel)) (goodIn_sub ml_v_X11_ending good_v_X11_ending)) rfl rfl rfl (by decide +kernel) ⟨Nat.le_of_ble_eq_true rfl, Nat.le_of_ble_eq_true rfl⟩) (lc_pre (ci := 10) (q := (RX11, TX11, 11)) hK hE hS hA hP hD rfl (xt_mem hXT)) rfl rfl hl.1 rfl (lv_room (Nat.le_of_ble_eq_true rfl)) dL_law_1454 ⟨(by show (1000 + 2 * ii) + 0 ≤ 600000; omega), (by show (100000 + 25 * ii) + 0 ≤ 7302250; omega)⟩) hS hA hP hD (fun r1454 W1 H locs hz1454 hP hD hS => ?_)
  obtain ⟨hr1454, hW1⟩ := hz1454
  refine lv_pop hx hb dL_law_1457 rfl ?_
  refine lv_aload_n hx hb dL_law_1458 rfl (lv_at hl 2 rfl) ?_
  refine lv_aload_n hx hb dL_law_1459 rfl (lv_at hl 0 rfl) ?_
  refine lv_iload_n hx hb dL_law_1460 rfl (lv_at hl 3 rfl) ?_
  refine lv_iconst (v := 1) hx hb dL_law_1461 (by decide) ?_
  refine lv_iadd hx hb dL_law_1462 ?_
  refine va_sld hx hb hX hbl hbA hS (lw_ix 1 h6 hL (by decide)) dL_law_1463 ?_
  refine lv_topi (nm_r (e' := xs (nI ii + 1).toNatClampNeg) rfl ?_)
  refine lv_aload_n hx hb dL_law_1464 rfl (lv_at hl 0 rfl) ?_
  refine lv_iload_n hx hb dL_law_1465 rfl (lv_at hl 3 rfl) ?_
  refine lv_iconst (v := 2) hx hb dL_law_1466 (by decide) ?_
  refine lv_iadd hx hb dL_law_1467 ?_
  refine va_sld hx hb hX hbl hbA hS (lw_ix 2 h6 hL (by decide)) dL_law_1468 ?_
  refine lv_topi (nm_r (e' := xs (nI ii + 2).toNatClampNeg) rfl ?_)
  refine lv_aload_n hx hb dL_law_1469 rfl (lv_at hl 0 rfl) ?_
  refine lv_iload_n hx hb dL_law_1470 rfl (lv_at hl 3 rfl) ?_
  refine lv_iconst (v := 3) hx hb dL_law_1471 (by decide) ?_
  refine lv_iadd hx hb dL_law_1472 ?_
  refine va_sld hx hb hX hbl hbA hS (lw_ix 3 h6 hL (by decide)) dL_law_1473 ?_
  refine lv_topi (nm_r (e' := xs (nI ii + 3).toNatClampNeg) rfl ?_)
  have hP := pm_Pp List.perm_append_comm hP
  have hD := pm_Dp List.perm_append_comm hD
  refine lc_i (X := M) (Rr := W1) (va_runV (As := [.int (xs (nI ii + 1).toNatClampNeg), .int (xs (nI ii + 2).toNatClampNeg), .int (xs (nI ii + 3).toNatClampNeg)]) (rest := []) ⟨hx, hb, hml, hown, hts⟩ (cm_X12_ending l g cI cJ cB cZ cL kA vA y M H.size hM (xs (nI ii + 1).toNatClampNeg) (xs (nI ii + 2).toNatClampNeg) (xs (nI ii + 3).toNatClampNeg)) (cwV 3 hts (goodIn_app (g_4 (List.mem_cons_of_mem _ (List.mem_append_left _ (List.mem_of_getElem? (i := 221) rfl))) (List.mem_cons_of_mem _ (List.mem_append_left _ (List.mem_of_getElem? (i := 222) rfl))) (List.mem_cons_of_mem _ (List.mem_append_left _ (List.mem_of_getElem? (i := 223) rfl))) (List.mem_cons_of_mem _ (List.mem_append_left _ (List.mem_of_getElem? (i := 7) rfl))) (by decide +kernel)) (goodIn_sub ml_v_X12_ending good_v_X12_ending)) rfl rfl rfl (by decide +kernel) ⟨Nat.le_of_ble_eq_true rfl, Nat.le_of_ble_eq_true rfl⟩) (lc_pre (ci := 11) (q := (RX12, TX12, 56)) hK hE hS hA hP hD rfl (mt_mem hM)) rfl rfl hl.1 rfl (lv_room (Nat.le_of_ble_eq_true rfl)) dL_law_1474 ⟨(by show (1000 + 2 * ii) + 0 + 0 ≤ 600000; omega), (by show (100000 + 25 * ii) + 0 + 0 ≤ 7302250; omega)⟩) hS hA hP hD (fun r1474 W2 H locs hz1474 hP hD hS => ?_)
  obtain ⟨hr1474, hW2⟩ := hz1474
  have hP := pm_Pp List.perm_append_comm hP
  have hD := pm_Dp List.perm_append_comm hD
  refine lv_pop hx hb dL_law_1477 rfl ?_
  refine lv_goto (tgt := 2459) hx hb dL_law_1478 (by decide) ?_
  refine W.widen (k := 1009 + 2 * ii) (n := 100145 + 25 * ii) (by omega) (by omega) ?_
  exact hend _ _ _ W1 W2 _ _ _ _ _ _ hW1 hW2 hJ hP hD hS hl
set_option maxHeartbeats 4000000 in
set_option maxRecDepth 100000 in
theorem lw_c37 {p : Program} {e : Env} {s : State} {m : MethodId} {below : List Frame} {meth : Method} {c : Code} (l : Launch) {sb L : Nat} {xs : Nat → Int32} (hL : L ≤ 3072) (C0 : lw_At p s m meth c sb L xs) {g : va_G} {cI cJ cB cZ cL : ClassId} (hK : va_K g vwCl (tyT cI cJ cB cZ cL) s) {kA vA : Nat → Nat} (hE : ENV kA vA (fun q : Nat => s.heap.size ≤ q) s) {x y : Nat} {ii : Nat} (h6 : ii + 6 ≤ L) (hend : ∀ (H : Heap) (locs : List Loc) (ls : Array Slot) (XT M : va_W) (sw sn ki mw mn kp : Nat → Int32) (hXT : XTSt cI cJ cB cZ cL x sw sn ki XT) (hM : MSt cI cJ cB cZ cL y mw mn kp M) (hJ : JJ sw sn ki mw mn kp) (hP : va_P g vwCl (XT ++ M) H) (hD : va_D (fun q : Nat => s.heap.size ≤ q) (XT ++ M)) (hS : va_S (fun q : Nat => s.heap.size ≤ q) s.heap H locs) (hl : lv_has ls 4 [(0, .ref sb), (1, .ref x), (2, .ref y), (3, .int (nI ii))]), W p l e room_1 s m #[Value.ref sb] below meth c H locs (1009 + 2 * ii) (100145 + 25 * ii) (lw_Z below #[Value.ref sb] s) (F0 m 2459 ls [])) (H : Heap) (locs : List Loc) (ls : Array Slot) (XT M : va_W) (sw sn ki mw mn kp : Nat → Int32) (hXT : XTSt cI cJ cB cZ cL x sw sn ki XT) (hM : MSt cI cJ cB cZ cL y mw mn kp M) (hJ : JJ sw sn ki mw mn kp) (hP : va_P g vwCl (XT ++ M) H) (hD : va_D (fun q : Nat => s.heap.size ≤ q) (XT ++ M)) (hS : va_S (fun q : Nat => s.heap.size ≤ q) s.heap H locs) (hl : lv_has ls 4 [(0, .ref sb), (1, .ref x), (2, .ref y), (3, .int (nI ii))]) : W p l e room_1 s m #[Value.ref sb] below meth c H locs (1000 + 2 * ii) (100000 + 25 * ii) (lw_Z below #[Value.ref sb] s) (F0 m 1481 ls []) := by
  obtain ⟨hx, hb, hr, hml, hown, hts0, hX, hbl, hlocks, hgv⟩ := id C0
  have hts : ∀ w ∈ v_L_law, w.before #[Value.ref sb] s = true := fun w h => hts0 w (in_v_L_law w h)
  have hown : s.vm.findClass RL = some m.cls := hown
  have hA : ∀ q : Nat, s.heap.size ≤ q → (fun q : Nat => s.heap.size ≤ q) q := fun _ h => h
  have hbA : ¬ (fun q : Nat => s.heap.size ≤ q) sb := Nat.not_le.mpr hbl
  refine lv_aload_n hx hb dL_law_1481 rfl (lv_at hl 1 rfl) ?_
  refine lv_aload_n hx hb dL_law_1482 rfl (lv_at hl 0 rfl) ?_
  refine lv_iload_n hx hb dL_law_1483 rfl (lv_at hl 3 rfl) ?_
  refine lv_iconst (v := 1) hx hb dL_law_1484 (by decide) ?_
  refine lv_iadd hx hb dL_law_1485 ?_
  refine va_sld hx hb hX hbl hbA hS (lw_ix 1 h6 hL (by decide)) dL_law_1486 ?_
  refine lv_topi (nm_r (e' := xs (nI ii + 1).toNatClampNeg) rfl ?_)
  refine lv_aload_n hx hb dL_law_1487 rfl (lv_at hl 0 rfl) ?_
  refine lv_iload_n hx hb dL_law_1488 rfl (lv_at hl 3 rfl) ?_
  refine lv_iconst (v := 2) hx hb dL_law_1489 (by decide) ?_
  refine lv_iadd hx hb dL_law_1490 ?_
  refine va_sld hx hb hX hbl hbA hS (lw_ix 2 h6 hL (by decide)) dL_law_1491 ?_
  refine lv_topi (nm_r (e' := xs (nI ii + 2).toNatClampNeg) rfl ?_)
  refine lv_aload_n hx hb dL_law_1492 rfl (lv_at hl 0 rfl) ?_
  refine lv_iload_n hx hb dL_law_1493 rfl (lv_at hl 3 rfl) ?_
  refine lv_iconst (v := 3) hx hb dL_law_1494 (by decide) ?_
  refine lv_iadd hx hb dL_law_1495 ?_
  refine va_sld hx hb hX hbl hbA hS (lw_ix 3 h6 hL (by decide)) dL_law_1496 ?_
  refine lv_topi (nm_r (e' := xs (nI ii + 3).toNatClampNeg) rfl ?_)
  refine lv_aload_n hx hb dL_law_1497 rfl (lv_at hl 0 rfl) ?_
  refine lv_iload_n hx hb dL_law_1498 rfl (lv_at hl 3 rfl) ?_
  refine lv_iconst (v := 4) hx hb dL_law_1499 (by decide) ?_
  refine lv_iadd hx hb dL_law_1500 ?_
  refine va_sld hx hb hX hbl hbA hS (lw_ix 4 h6 hL (by decide)) dL_law_1501 ?_
  refine lv_topi (nm_r (e' := xs (nI ii + 4).toNatClampNeg) rfl ?_)
  refine lc_i (X := XT) (Rr := M) (va_runV (As := [.int (xs (nI ii + 1).toNatClampNeg), .int (xs (nI ii + 2).toNatClampNeg), .int (xs (nI ii + 3).toNatClampNeg), .int (xs (nI ii + 4).toNatClampNeg)]) (rest := []) ⟨hx, hb, hml, hown, hts⟩ (lift_i (fun im X hX => cx_X11_step l g cI cJ cB cZ cL kA vA x im X H.size hX (xs (nI ii + 1).toNatClampNeg) (xs (nI ii + 2).toNatClampNeg) (xs (nI ii + 3).toNatClampNeg) (xs (nI ii + 4).toNatClampNeg)) hXT) (cwV 4 hts (goodIn_app (g_4 (List.mem_cons_of_mem _ (List.mem_append_left _ (List.mem_of_getElem? (i := 224) rfl))) (List.mem_cons_of_mem _ (List.mem_append_left _ (List.mem_of_getElem? (i := 225) rfl))) (List.mem_cons_of_mem _ (List.mem_append_left _ (List.mem_of_getElem? (i := 226) rfl))) (List.mem_cons_of_mem _ (List.mem_append_left _ (List.mem_of_getElem? (i := 3) rfl))) (by decide +kernel)) (goodIn_sub ml_v_X11_step good_v_X11_step)) rfl rfl rfl (by decide +kernel) ⟨Nat.le_of_ble_eq_true rfl, Nat.le_of_ble_eq_true rfl⟩) (lc_pre (ci := 10) (q := (RX11, TX11, 11)) hK hE hS hA hP hD rfl (xt_mem hXT)) rfl rfl hl.1 rfl (lv_room (Nat.le_of_ble_eq_true rfl)) dL_law_1502 ⟨(by show (1000 + 2 * ii) + 0 ≤ 600000; omega), (by show (100000 + 25 * ii) + 0 ≤ 7302250; omega)⟩) hS hA hP hD (fun r1502 W1 H locs hz1502 hP hD hS => ?_)
  obtain ⟨hr1502, hW1⟩ := hz1502
  refine lv_pop hx hb dL_law_1505 rfl ?_
  refine lv_aload_n hx hb dL_law_1506 rfl (lv_at hl 2 rfl) ?_
  refine lv_aload_n hx hb dL_law_1507 rfl (lv_at hl 0 rfl) ?_
  refine lv_iload_n hx hb dL_law_1508 rfl (lv_at hl 3 rfl) ?_
  refine lv_iconst (v := 1) hx hb dL_law_1509 (by decide) ?_
  refine lv_iadd hx hb dL_law_1510 ?_
  refine va_sld hx hb hX hbl hbA hS (lw_ix 1 h6 hL (by decide)) dL_law_1511 ?_
  refine lv_topi (nm_r (e' := xs (nI ii + 1).toNatClampNeg) rfl ?_)
  refine lv_aload_n hx hb dL_law_1512 rfl (lv_at hl 0 rfl) ?_
  refine lv_iload_n hx hb dL_law_1513 rfl (lv_at hl 3 rfl) ?_
  refine lv_iconst (v := 2) hx hb dL_law_1514 (by decide) ?_
  refine lv_iadd hx hb dL_law_1515 ?_
  refine va_sld hx hb hX hbl hbA hS (lw_ix 2 h6 hL (by decide)) dL_law_1516 ?_
  refine lv_topi (nm_r (e' := xs (nI ii + 2).toNatClampNeg) rfl ?_)
  refine lv_aload_n hx hb dL_law_1517 rfl (lv_at hl 0 rfl) ?_
  refine lv_iload_n hx hb dL_law_1518 rfl (lv_at hl 3 rfl) ?_
  refine lv_iconst (v := 3) hx hb dL_law_1519 (by decide) ?_
  refine lv_iadd hx hb dL_law_1520 ?_
  refine va_sld hx hb hX hbl hbA hS (lw_ix 3 h6 hL (by decide)) dL_law_1521 ?_
  refine lv_topi (nm_r (e' := xs (nI ii + 3).toNatClampNeg) rfl ?_)
  refine lv_aload_n hx hb dL_law_1522 rfl (lv_at hl 0 rfl) ?_
  refine lv_iload_n hx hb dL_law_1523 rfl (lv_at hl 3 rfl) ?_
  refine lv_iconst (v := 4) hx hb dL_law_1524 (by decide) ?_
  refine lv_iadd hx hb dL_law_1525 ?_
  refine va_sld hx hb hX hbl hbA hS (lw_ix 4 h6 hL (by decide)) dL_law_1526 ?_
  refine lv_topi (nm_r (e' := xs (nI ii + 4).toNatClampNeg) rfl ?_)
  have hP := pm_Pp List.perm_append_comm hP
  have hD := pm_Dp List.perm_append_comm hD
  refine lc_i (X := M) (Rr := W1) (va_runV (As := [.int (xs (nI ii + 1).toNatClampNeg), .int (xs (nI ii + 2).toNatClampNeg), .int (xs (nI ii + 3).toNatClampNeg), .int (xs (nI ii + 4).toNatClampNeg)]) (rest := []) ⟨hx, hb, hml, hown, hts⟩ (cm_X12_step l g cI cJ cB cZ cL kA vA y M H.size hM (xs (nI ii + 1).toNatClampNeg) (xs (nI ii + 2).toNatClampNeg) (xs (nI ii + 3).toNatClampNeg) (xs (nI ii + 4).toNatClampNeg)) (cwV 4 hts (goodIn_app (g_4 (List.mem_cons_of_mem _ (List.mem_append_left _ (List.mem_of_getElem? (i := 227) rfl))) (List.mem_cons_of_mem _ (List.mem_append_left _ (List.mem_of_getElem? (i := 228) rfl))) (List.mem_cons_of_mem _ (List.mem_append_left _ (List.mem_of_getElem? (i := 229) rfl))) (List.mem_cons_of_mem _ (List.mem_append_left _ (List.mem_of_getElem? (i := 7) rfl))) (by decide +kernel)) (goodIn_sub ml_v_X12_step good_v_X12_step)) rfl rfl rfl (by decide +kernel) ⟨Nat.le_of_ble_eq_true rfl, Nat.le_of_ble_eq_true rfl⟩) (lc_pre (ci := 11) (q := (RX12, TX12, 56)) hK hE hS hA hP hD rfl (mt_mem hM)) rfl rfl hl.1 rfl (lv_room (Nat.le_of_ble_eq_true rfl)) dL_law_1527 ⟨(by show (1000 + 2 * ii) + 0 + 0 ≤ 600000; omega), (by show (100000 + 25 * ii) + 0 + 0 ≤ 7302250; omega)⟩) hS hA hP hD (fun r1527 W2 H locs hz1527 hP hD hS => ?_)
  obtain ⟨hr1527, hW2⟩ := hz1527
  have hP := pm_Pp List.perm_append_comm hP
  have hD := pm_Dp List.perm_append_comm hD
  refine lv_pop hx hb dL_law_1530 rfl ?_
  refine lv_goto (tgt := 2459) hx hb dL_law_1531 (by decide) ?_
  refine W.widen (k := 1009 + 2 * ii) (n := 100145 + 25 * ii) (by omega) (by omega) ?_
  exact hend _ _ _ W1 W2 _ _ _ _ _ _ hW1 hW2 hJ hP hD hS hl
set_option maxHeartbeats 4000000 in
set_option maxRecDepth 100000 in
theorem lw_c38 {p : Program} {e : Env} {s : State} {m : MethodId} {below : List Frame} {meth : Method} {c : Code} (l : Launch) {sb L : Nat} {xs : Nat → Int32} (hL : L ≤ 3072) (C0 : lw_At p s m meth c sb L xs) {g : va_G} {cI cJ cB cZ cL : ClassId} (hK : va_K g vwCl (tyT cI cJ cB cZ cL) s) {kA vA : Nat → Nat} (hE : ENV kA vA (fun q : Nat => s.heap.size ≤ q) s) {x y : Nat} {ii : Nat} (h6 : ii + 6 ≤ L) (hend : ∀ (H : Heap) (locs : List Loc) (ls : Array Slot) (XT M : va_W) (sw sn ki mw mn kp : Nat → Int32) (hXT : XTSt cI cJ cB cZ cL x sw sn ki XT) (hM : MSt cI cJ cB cZ cL y mw mn kp M) (hJ : JJ sw sn ki mw mn kp) (hP : va_P g vwCl (XT ++ M) H) (hD : va_D (fun q : Nat => s.heap.size ≤ q) (XT ++ M)) (hS : va_S (fun q : Nat => s.heap.size ≤ q) s.heap H locs) (hl : lv_has ls 4 [(0, .ref sb), (1, .ref x), (2, .ref y), (3, .int (nI ii))]), W p l e room_1 s m #[Value.ref sb] below meth c H locs (1009 + 2 * ii) (100145 + 25 * ii) (lw_Z below #[Value.ref sb] s) (F0 m 2459 ls [])) (H : Heap) (locs : List Loc) (ls : Array Slot) (XT M : va_W) (sw sn ki mw mn kp : Nat → Int32) (hXT : XTSt cI cJ cB cZ cL x sw sn ki XT) (hM : MSt cI cJ cB cZ cL y mw mn kp M) (hJ : JJ sw sn ki mw mn kp) (hP : va_P g vwCl (XT ++ M) H) (hD : va_D (fun q : Nat => s.heap.size ≤ q) (XT ++ M)) (hS : va_S (fun q : Nat => s.heap.size ≤ q) s.heap H locs) (hl : lv_has ls 4 [(0, .ref sb), (1, .ref x), (2, .ref y), (3, .int (nI ii))]) : W p l e room_1 s m #[Value.ref sb] below meth c H locs (1000 + 2 * ii) (100000 + 25 * ii) (lw_Z below #[Value.ref sb] s) (F0 m 1534 ls []) := by
  obtain ⟨hx, hb, hr, hml, hown, hts0, hX, hbl, hlocks, hgv⟩ := id C0
  have hts : ∀ w ∈ v_L_law, w.before #[Value.ref sb] s = true := fun w h => hts0 w (in_v_L_law w h)
  have hown : s.vm.findClass RL = some m.cls := hown
  have hA : ∀ q : Nat, s.heap.size ≤ q → (fun q : Nat => s.heap.size ≤ q) q := fun _ h => h
  have hbA : ¬ (fun q : Nat => s.heap.size ≤ q) sb := Nat.not_le.mpr hbl
  refine lv_aload_n hx hb dL_law_1534 rfl (lv_at hl 1 rfl) ?_
  refine lv_aload_n hx hb dL_law_1535 rfl (lv_at hl 0 rfl) ?_
  refine lv_iload_n hx hb dL_law_1536 rfl (lv_at hl 3 rfl) ?_
  refine lv_iconst (v := 1) hx hb dL_law_1537 (by decide) ?_
  refine lv_iadd hx hb dL_law_1538 ?_
  refine va_sld hx hb hX hbl hbA hS (lw_ix 1 h6 hL (by decide)) dL_law_1539 ?_
  refine lv_topi (nm_r (e' := xs (nI ii + 1).toNatClampNeg) rfl ?_)
  refine lv_aload_n hx hb dL_law_1540 rfl (lv_at hl 0 rfl) ?_
  refine lv_iload_n hx hb dL_law_1541 rfl (lv_at hl 3 rfl) ?_
  refine lv_iconst (v := 2) hx hb dL_law_1542 (by decide) ?_
  refine lv_iadd hx hb dL_law_1543 ?_
  refine va_sld hx hb hX hbl hbA hS (lw_ix 2 h6 hL (by decide)) dL_law_1544 ?_
  refine lv_topi (nm_r (e' := xs (nI ii + 2).toNatClampNeg) rfl ?_)
  refine lv_aload_n hx hb dL_law_1545 rfl (lv_at hl 0 rfl) ?_
  refine lv_iload_n hx hb dL_law_1546 rfl (lv_at hl 3 rfl) ?_
  refine lv_iconst (v := 3) hx hb dL_law_1547 (by decide) ?_
  refine lv_iadd hx hb dL_law_1548 ?_
  refine va_sld hx hb hX hbl hbA hS (lw_ix 3 h6 hL (by decide)) dL_law_1549 ?_
  refine lv_topi (nm_r (e' := xs (nI ii + 3).toNatClampNeg) rfl ?_)
  refine lc_i (X := XT) (Rr := M) (va_runV (As := [.int (xs (nI ii + 1).toNatClampNeg), .int (xs (nI ii + 2).toNatClampNeg), .int (xs (nI ii + 3).toNatClampNeg)]) (rest := []) ⟨hx, hb, hml, hown, hts⟩ (lift_i (fun im X hX => cx_X11_keeping l g cI cJ cB cZ cL kA vA x im X H.size hX (xs (nI ii + 1).toNatClampNeg) (xs (nI ii + 2).toNatClampNeg) (xs (nI ii + 3).toNatClampNeg)) hXT) (cwV 3 hts (goodIn_app (g_4 (List.mem_cons_of_mem _ (List.mem_append_left _ (List.mem_of_getElem? (i := 230) rfl))) (List.mem_cons_of_mem _ (List.mem_append_left _ (List.mem_of_getElem? (i := 231) rfl))) (List.mem_cons_of_mem _ (List.mem_append_left _ (List.mem_of_getElem? (i := 232) rfl))) (List.mem_cons_of_mem _ (List.mem_append_left _ (List.mem_of_getElem? (i := 3) rfl))) (by decide +kernel)) (goodIn_sub ml_v_X11_keeping good_v_X11_keeping)) rfl rfl rfl (by decide +kernel) ⟨Nat.le_of_ble_eq_true rfl, Nat.le_of_ble_eq_true rfl⟩) (lc_pre (ci := 10) (q := (RX11, TX11, 11)) hK hE hS hA hP hD rfl (xt_mem hXT)) rfl rfl hl.1 rfl (lv_room (Nat.le_of_ble_eq_true rfl)) dL_law_1550 ⟨(by show (1000 + 2 * ii) + 0 ≤ 600000; omega), (by show (100000 + 25 * ii) + 0 ≤ 7302250; omega)⟩) hS hA hP hD (fun r1550 W1 H locs hz1550 hP hD hS => ?_)
  obtain ⟨hr1550, hW1⟩ := hz1550
  refine lv_pop hx hb dL_law_1553 rfl ?_
  refine lv_aload_n hx hb dL_law_1554 rfl (lv_at hl 2 rfl) ?_
  refine lv_aload_n hx hb dL_law_1555 rfl (lv_at hl 0 rfl) ?_
  refine lv_iload_n hx hb dL_law_1556 rfl (lv_at hl 3 rfl) ?_
  refine lv_iconst (v := 1) hx hb dL_law_1557 (by decide) ?_
  refine lv_iadd hx hb dL_law_1558 ?_
  refine va_sld hx hb hX hbl hbA hS (lw_ix 1 h6 hL (by decide)) dL_law_1559 ?_
  refine lv_topi (nm_r (e' := xs (nI ii + 1).toNatClampNeg) rfl ?_)
  refine lv_aload_n hx hb dL_law_1560 rfl (lv_at hl 0 rfl) ?_
  refine lv_iload_n hx hb dL_law_1561 rfl (lv_at hl 3 rfl) ?_
  refine lv_iconst (v := 2) hx hb dL_law_1562 (by decide) ?_
  refine lv_iadd hx hb dL_law_1563 ?_
  refine va_sld hx hb hX hbl hbA hS (lw_ix 2 h6 hL (by decide)) dL_law_1564 ?_
  refine lv_topi (nm_r (e' := xs (nI ii + 2).toNatClampNeg) rfl ?_)
  refine lv_aload_n hx hb dL_law_1565 rfl (lv_at hl 0 rfl) ?_
  refine lv_iload_n hx hb dL_law_1566 rfl (lv_at hl 3 rfl) ?_
  refine lv_iconst (v := 3) hx hb dL_law_1567 (by decide) ?_
  refine lv_iadd hx hb dL_law_1568 ?_
  refine va_sld hx hb hX hbl hbA hS (lw_ix 3 h6 hL (by decide)) dL_law_1569 ?_
  refine lv_topi (nm_r (e' := xs (nI ii + 3).toNatClampNeg) rfl ?_)
  have hP := pm_Pp List.perm_append_comm hP
  have hD := pm_Dp List.perm_append_comm hD
  refine lc_i (X := M) (Rr := W1) (va_runV (As := [.int (xs (nI ii + 1).toNatClampNeg), .int (xs (nI ii + 2).toNatClampNeg), .int (xs (nI ii + 3).toNatClampNeg)]) (rest := []) ⟨hx, hb, hml, hown, hts⟩ (cm_X12_keeping l g cI cJ cB cZ cL kA vA y M H.size hM (xs (nI ii + 1).toNatClampNeg) (xs (nI ii + 2).toNatClampNeg) (xs (nI ii + 3).toNatClampNeg)) (cwV 3 hts (goodIn_app (g_4 (List.mem_cons_of_mem _ (List.mem_append_left _ (List.mem_of_getElem? (i := 233) rfl))) (List.mem_cons_of_mem _ (List.mem_append_left _ (List.mem_of_getElem? (i := 234) rfl))) (List.mem_cons_of_mem _ (List.mem_append_left _ (List.mem_of_getElem? (i := 235) rfl))) (List.mem_cons_of_mem _ (List.mem_append_left _ (List.mem_of_getElem? (i := 7) rfl))) (by decide +kernel)) (goodIn_sub ml_v_X12_keeping good_v_X12_keeping)) rfl rfl rfl (by decide +kernel) ⟨Nat.le_of_ble_eq_true rfl, Nat.le_of_ble_eq_true rfl⟩) (lc_pre (ci := 11) (q := (RX12, TX12, 56)) hK hE hS hA hP hD rfl (mt_mem hM)) rfl rfl hl.1 rfl (lv_room (Nat.le_of_ble_eq_true rfl)) dL_law_1570 ⟨(by show (1000 + 2 * ii) + 0 + 0 ≤ 600000; omega), (by show (100000 + 25 * ii) + 0 + 0 ≤ 7302250; omega)⟩) hS hA hP hD (fun r1570 W2 H locs hz1570 hP hD hS => ?_)
  obtain ⟨hr1570, hW2⟩ := hz1570
  have hP := pm_Pp List.perm_append_comm hP
  have hD := pm_Dp List.perm_append_comm hD
  refine lv_pop hx hb dL_law_1573 rfl ?_
  refine lv_goto (tgt := 2459) hx hb dL_law_1574 (by decide) ?_
  refine W.widen (k := 1009 + 2 * ii) (n := 100145 + 25 * ii) (by omega) (by omega) ?_
  exact hend _ _ _ W1 W2 _ _ _ _ _ _ hW1 hW2 hJ hP hD hS hl
set_option maxHeartbeats 4000000 in
set_option maxRecDepth 100000 in
theorem lw_c39 {p : Program} {e : Env} {s : State} {m : MethodId} {below : List Frame} {meth : Method} {c : Code} (l : Launch) {sb L : Nat} {xs : Nat → Int32} (hL : L ≤ 3072) (C0 : lw_At p s m meth c sb L xs) {g : va_G} {cI cJ cB cZ cL : ClassId} (hK : va_K g vwCl (tyT cI cJ cB cZ cL) s) {kA vA : Nat → Nat} (hE : ENV kA vA (fun q : Nat => s.heap.size ≤ q) s) {x y : Nat} {ii : Nat} (h6 : ii + 6 ≤ L) (hend : ∀ (H : Heap) (locs : List Loc) (ls : Array Slot) (XT M : va_W) (sw sn ki mw mn kp : Nat → Int32) (hXT : XTSt cI cJ cB cZ cL x sw sn ki XT) (hM : MSt cI cJ cB cZ cL y mw mn kp M) (hJ : JJ sw sn ki mw mn kp) (hP : va_P g vwCl (XT ++ M) H) (hD : va_D (fun q : Nat => s.heap.size ≤ q) (XT ++ M)) (hS : va_S (fun q : Nat => s.heap.size ≤ q) s.heap H locs) (hl : lv_has ls 4 [(0, .ref sb), (1, .ref x), (2, .ref y), (3, .int (nI ii))]), W p l e room_1 s m #[Value.ref sb] below meth c H locs (1009 + 2 * ii) (100145 + 25 * ii) (lw_Z below #[Value.ref sb] s) (F0 m 2459 ls [])) (H : Heap) (locs : List Loc) (ls : Array Slot) (XT M : va_W) (sw sn ki mw mn kp : Nat → Int32) (hXT : XTSt cI cJ cB cZ cL x sw sn ki XT) (hM : MSt cI cJ cB cZ cL y mw mn kp M) (hJ : JJ sw sn ki mw mn kp) (hP : va_P g vwCl (XT ++ M) H) (hD : va_D (fun q : Nat => s.heap.size ≤ q) (XT ++ M)) (hS : va_S (fun q : Nat => s.heap.size ≤ q) s.heap H locs) (hl : lv_has ls 4 [(0, .ref sb), (1, .ref x), (2, .ref y), (3, .int (nI ii))]) : W p l e room_1 s m #[Value.ref sb] below meth c H locs (1000 + 2 * ii) (100000 + 25 * ii) (lw_Z below #[Value.ref sb] s) (F0 m 1577 ls []) := by
  obtain ⟨hx, hb, hr, hml, hown, hts0, hX, hbl, hlocks, hgv⟩ := id C0
  have hts : ∀ w ∈ v_L_law, w.before #[Value.ref sb] s = true := fun w h => hts0 w (in_v_L_law w h)
  have hown : s.vm.findClass RL = some m.cls := hown
  have hA : ∀ q : Nat, s.heap.size ≤ q → (fun q : Nat => s.heap.size ≤ q) q := fun _ h => h
  have hbA : ¬ (fun q : Nat => s.heap.size ≤ q) sb := Nat.not_le.mpr hbl
  refine lv_aload_n hx hb dL_law_1577 rfl (lv_at hl 1 rfl) ?_
  refine lv_aload_n hx hb dL_law_1578 rfl (lv_at hl 0 rfl) ?_
  refine lv_iload_n hx hb dL_law_1579 rfl (lv_at hl 3 rfl) ?_
  refine lv_iconst (v := 1) hx hb dL_law_1580 (by decide) ?_
  refine lv_iadd hx hb dL_law_1581 ?_
  refine va_sld hx hb hX hbl hbA hS (lw_ix 1 h6 hL (by decide)) dL_law_1582 ?_
  refine lv_topi (nm_r (e' := xs (nI ii + 1).toNatClampNeg) rfl ?_)
  refine lv_aload_n hx hb dL_law_1583 rfl (lv_at hl 0 rfl) ?_
  refine lv_iload_n hx hb dL_law_1584 rfl (lv_at hl 3 rfl) ?_
  refine lv_iconst (v := 2) hx hb dL_law_1585 (by decide) ?_
  refine lv_iadd hx hb dL_law_1586 ?_
  refine va_sld hx hb hX hbl hbA hS (lw_ix 2 h6 hL (by decide)) dL_law_1587 ?_
  refine lv_topi (nm_r (e' := xs (nI ii + 2).toNatClampNeg) rfl ?_)
  refine lv_aload_n hx hb dL_law_1588 rfl (lv_at hl 0 rfl) ?_
  refine lv_iload_n hx hb dL_law_1589 rfl (lv_at hl 3 rfl) ?_
  refine lv_iconst (v := 3) hx hb dL_law_1590 (by decide) ?_
  refine lv_iadd hx hb dL_law_1591 ?_
  refine va_sld hx hb hX hbl hbA hS (lw_ix 3 h6 hL (by decide)) dL_law_1592 ?_
  refine lv_topi (nm_r (e' := xs (nI ii + 3).toNatClampNeg) rfl ?_)
  refine lv_aload_n hx hb dL_law_1593 rfl (lv_at hl 0 rfl) ?_
  refine lv_iload_n hx hb dL_law_1594 rfl (lv_at hl 3 rfl) ?_
  refine lv_iconst (v := 4) hx hb dL_law_1595 (by decide) ?_
  refine lv_iadd hx hb dL_law_1596 ?_
  refine va_sld hx hb hX hbl hbA hS (lw_ix 4 h6 hL (by decide)) dL_law_1597 ?_
  refine lv_topi (nm_r (e' := xs (nI ii + 4).toNatClampNeg) rfl ?_)
  refine lc_i (X := XT) (Rr := M) (va_runV (As := [.int (xs (nI ii + 1).toNatClampNeg), .int (xs (nI ii + 2).toNatClampNeg), .int (xs (nI ii + 3).toNatClampNeg), .int (xs (nI ii + 4).toNatClampNeg)]) (rest := []) ⟨hx, hb, hml, hown, hts⟩ (lift_i (fun im X hX => cx_X11_pen l g cI cJ cB cZ cL kA vA x im X H.size hX (xs (nI ii + 1).toNatClampNeg) (xs (nI ii + 2).toNatClampNeg) (xs (nI ii + 3).toNatClampNeg) (xs (nI ii + 4).toNatClampNeg)) hXT) (cwV 4 hts (goodIn_app (g_4 (List.mem_cons_of_mem _ (List.mem_append_left _ (List.mem_of_getElem? (i := 236) rfl))) (List.mem_cons_of_mem _ (List.mem_append_left _ (List.mem_of_getElem? (i := 237) rfl))) (List.mem_cons_of_mem _ (List.mem_append_left _ (List.mem_of_getElem? (i := 238) rfl))) (List.mem_cons_of_mem _ (List.mem_append_left _ (List.mem_of_getElem? (i := 3) rfl))) (by decide +kernel)) (goodIn_sub ml_v_X11_pen good_v_X11_pen)) rfl rfl rfl (by decide +kernel) ⟨Nat.le_of_ble_eq_true rfl, Nat.le_of_ble_eq_true rfl⟩) (lc_pre (ci := 10) (q := (RX11, TX11, 11)) hK hE hS hA hP hD rfl (xt_mem hXT)) rfl rfl hl.1 rfl (lv_room (Nat.le_of_ble_eq_true rfl)) dL_law_1598 ⟨(by show (1000 + 2 * ii) + 0 ≤ 600000; omega), (by show (100000 + 25 * ii) + 0 ≤ 7302250; omega)⟩) hS hA hP hD (fun r1598 W1 H locs hz1598 hP hD hS => ?_)
  obtain ⟨hr1598, hW1⟩ := hz1598
  refine lv_pop hx hb dL_law_1601 rfl ?_
  refine lv_aload_n hx hb dL_law_1602 rfl (lv_at hl 2 rfl) ?_
  refine lv_aload_n hx hb dL_law_1603 rfl (lv_at hl 0 rfl) ?_
  refine lv_iload_n hx hb dL_law_1604 rfl (lv_at hl 3 rfl) ?_
  refine lv_iconst (v := 1) hx hb dL_law_1605 (by decide) ?_
  refine lv_iadd hx hb dL_law_1606 ?_
  refine va_sld hx hb hX hbl hbA hS (lw_ix 1 h6 hL (by decide)) dL_law_1607 ?_
  refine lv_topi (nm_r (e' := xs (nI ii + 1).toNatClampNeg) rfl ?_)
  refine lv_aload_n hx hb dL_law_1608 rfl (lv_at hl 0 rfl) ?_
  refine lv_iload_n hx hb dL_law_1609 rfl (lv_at hl 3 rfl) ?_
  refine lv_iconst (v := 2) hx hb dL_law_1610 (by decide) ?_
  refine lv_iadd hx hb dL_law_1611 ?_
  refine va_sld hx hb hX hbl hbA hS (lw_ix 2 h6 hL (by decide)) dL_law_1612 ?_
  refine lv_topi (nm_r (e' := xs (nI ii + 2).toNatClampNeg) rfl ?_)
  refine lv_aload_n hx hb dL_law_1613 rfl (lv_at hl 0 rfl) ?_
  refine lv_iload_n hx hb dL_law_1614 rfl (lv_at hl 3 rfl) ?_
  refine lv_iconst (v := 3) hx hb dL_law_1615 (by decide) ?_
  refine lv_iadd hx hb dL_law_1616 ?_
  refine va_sld hx hb hX hbl hbA hS (lw_ix 3 h6 hL (by decide)) dL_law_1617 ?_
  refine lv_topi (nm_r (e' := xs (nI ii + 3).toNatClampNeg) rfl ?_)
  refine lv_aload_n hx hb dL_law_1618 rfl (lv_at hl 0 rfl) ?_
  refine lv_iload_n hx hb dL_law_1619 rfl (lv_at hl 3 rfl) ?_
  refine lv_iconst (v := 4) hx hb dL_law_1620 (by decide) ?_
  refine lv_iadd hx hb dL_law_1621 ?_
  refine va_sld hx hb hX hbl hbA hS (lw_ix 4 h6 hL (by decide)) dL_law_1622 ?_
  refine lv_topi (nm_r (e' := xs (nI ii + 4).toNatClampNeg) rfl ?_)
  have hP := pm_Pp List.perm_append_comm hP
  have hD := pm_Dp List.perm_append_comm hD
  refine lc_i (X := M) (Rr := W1) (va_runV (As := [.int (xs (nI ii + 1).toNatClampNeg), .int (xs (nI ii + 2).toNatClampNeg), .int (xs (nI ii + 3).toNatClampNeg), .int (xs (nI ii + 4).toNatClampNeg)]) (rest := []) ⟨hx, hb, hml, hown, hts⟩ (cm_X12_pen l g cI cJ cB cZ cL kA vA y M H.size hM (xs (nI ii + 1).toNatClampNeg) (xs (nI ii + 2).toNatClampNeg) (xs (nI ii + 3).toNatClampNeg) (xs (nI ii + 4).toNatClampNeg)) (cwV 4 hts (goodIn_app (g_4 (List.mem_cons_of_mem _ (List.mem_append_left _ (List.mem_of_getElem? (i := 239) rfl))) (List.mem_cons_of_mem _ (List.mem_append_left _ (List.mem_of_getElem? (i := 240) rfl))) (List.mem_cons_of_mem _ (List.mem_append_left _ (List.mem_of_getElem? (i := 241) rfl))) (List.mem_cons_of_mem _ (List.mem_append_left _ (List.mem_of_getElem? (i := 7) rfl))) (by decide +kernel)) (goodIn_sub ml_v_X12_pen good_v_X12_pen)) rfl rfl rfl (by decide +kernel) ⟨Nat.le_of_ble_eq_true rfl, Nat.le_of_ble_eq_true rfl⟩) (lc_pre (ci := 11) (q := (RX12, TX12, 56)) hK hE hS hA hP hD rfl (mt_mem hM)) rfl rfl hl.1 rfl (lv_room (Nat.le_of_ble_eq_true rfl)) dL_law_1623 ⟨(by show (1000 + 2 * ii) + 0 + 0 ≤ 600000; omega), (by show (100000 + 25 * ii) + 0 + 0 ≤ 7302250; omega)⟩) hS hA hP hD (fun r1623 W2 H locs hz1623 hP hD hS => ?_)
  obtain ⟨hr1623, hW2⟩ := hz1623
  have hP := pm_Pp List.perm_append_comm hP
  have hD := pm_Dp List.perm_append_comm hD
  refine lv_pop hx hb dL_law_1626 rfl ?_
  refine lv_goto (tgt := 2459) hx hb dL_law_1627 (by decide) ?_
  refine W.widen (k := 1009 + 2 * ii) (n := 100145 + 25 * ii) (by omega) (by omega) ?_
  exact hend _ _ _ W1 W2 _ _ _ _ _ _ hW1 hW2 hJ hP hD hS hl
set_option maxHeartbeats 4000000 in
set_option maxRecDepth 100000 in
theorem lw_c40 {p : Program} {e : Env} {s : State} {m : MethodId} {below : List Frame} {meth : Method} {c : Code} (l : Launch) {sb L : Nat} {xs : Nat → Int32} (hL : L ≤ 3072) (C0 : lw_At p s m meth c sb L xs) {g : va_G} {cI cJ cB cZ cL : ClassId} (hK : va_K g vwCl (tyT cI cJ cB cZ cL) s) {kA vA : Nat → Nat} (hE : ENV kA vA (fun q : Nat => s.heap.size ≤ q) s) {x y : Nat} {ii : Nat} (h6 : ii + 6 ≤ L) (hend : ∀ (H : Heap) (locs : List Loc) (ls : Array Slot) (XT M : va_W) (sw sn ki mw mn kp : Nat → Int32) (hXT : XTSt cI cJ cB cZ cL x sw sn ki XT) (hM : MSt cI cJ cB cZ cL y mw mn kp M) (hJ : JJ sw sn ki mw mn kp) (hP : va_P g vwCl (XT ++ M) H) (hD : va_D (fun q : Nat => s.heap.size ≤ q) (XT ++ M)) (hS : va_S (fun q : Nat => s.heap.size ≤ q) s.heap H locs) (hl : lv_has ls 4 [(0, .ref sb), (1, .ref x), (2, .ref y), (3, .int (nI ii))]), W p l e room_1 s m #[Value.ref sb] below meth c H locs (1009 + 2 * ii) (100145 + 25 * ii) (lw_Z below #[Value.ref sb] s) (F0 m 2459 ls [])) (H : Heap) (locs : List Loc) (ls : Array Slot) (XT M : va_W) (sw sn ki mw mn kp : Nat → Int32) (hXT : XTSt cI cJ cB cZ cL x sw sn ki XT) (hM : MSt cI cJ cB cZ cL y mw mn kp M) (hJ : JJ sw sn ki mw mn kp) (hP : va_P g vwCl (XT ++ M) H) (hD : va_D (fun q : Nat => s.heap.size ≤ q) (XT ++ M)) (hS : va_S (fun q : Nat => s.heap.size ≤ q) s.heap H locs) (hl : lv_has ls 4 [(0, .ref sb), (1, .ref x), (2, .ref y), (3, .int (nI ii))]) : W p l e room_1 s m #[Value.ref sb] below meth c H locs (1000 + 2 * ii) (100000 + 25 * ii) (lw_Z below #[Value.ref sb] s) (F0 m 1630 ls []) := by
  obtain ⟨hx, hb, hr, hml, hown, hts0, hX, hbl, hlocks, hgv⟩ := id C0
  have hts : ∀ w ∈ v_L_law, w.before #[Value.ref sb] s = true := fun w h => hts0 w (in_v_L_law w h)
  have hown : s.vm.findClass RL = some m.cls := hown
  have hA : ∀ q : Nat, s.heap.size ≤ q → (fun q : Nat => s.heap.size ≤ q) q := fun _ h => h
  have hbA : ¬ (fun q : Nat => s.heap.size ≤ q) sb := Nat.not_le.mpr hbl
  refine lv_aload_n hx hb dL_law_1630 rfl (lv_at hl 1 rfl) ?_
  refine lv_aload_n hx hb dL_law_1631 rfl (lv_at hl 0 rfl) ?_
  refine lv_iload_n hx hb dL_law_1632 rfl (lv_at hl 3 rfl) ?_
  refine lv_iconst (v := 1) hx hb dL_law_1633 (by decide) ?_
  refine lv_iadd hx hb dL_law_1634 ?_
  refine va_sld hx hb hX hbl hbA hS (lw_ix 1 h6 hL (by decide)) dL_law_1635 ?_
  refine lv_topi (nm_r (e' := xs (nI ii + 1).toNatClampNeg) rfl ?_)
  refine lv_aload_n hx hb dL_law_1636 rfl (lv_at hl 0 rfl) ?_
  refine lv_iload_n hx hb dL_law_1637 rfl (lv_at hl 3 rfl) ?_
  refine lv_iconst (v := 2) hx hb dL_law_1638 (by decide) ?_
  refine lv_iadd hx hb dL_law_1639 ?_
  refine va_sld hx hb hX hbl hbA hS (lw_ix 2 h6 hL (by decide)) dL_law_1640 ?_
  refine lv_topi (nm_r (e' := xs (nI ii + 2).toNatClampNeg) rfl ?_)
  refine lv_aload_n hx hb dL_law_1641 rfl (lv_at hl 0 rfl) ?_
  refine lv_iload_n hx hb dL_law_1642 rfl (lv_at hl 3 rfl) ?_
  refine lv_iconst (v := 3) hx hb dL_law_1643 (by decide) ?_
  refine lv_iadd hx hb dL_law_1644 ?_
  refine va_sld hx hb hX hbl hbA hS (lw_ix 3 h6 hL (by decide)) dL_law_1645 ?_
  refine lv_topi (nm_r (e' := xs (nI ii + 3).toNatClampNeg) rfl ?_)
  refine lc_i (X := XT) (Rr := M) (va_runV (As := [.int (xs (nI ii + 1).toNatClampNeg), .int (xs (nI ii + 2).toNatClampNeg), .int (xs (nI ii + 3).toNatClampNeg)]) (rest := []) ⟨hx, hb, hml, hown, hts⟩ (lift_i (fun im X hX => cx_X11_quit l g cI cJ cB cZ cL kA vA x im X H.size hX (xs (nI ii + 1).toNatClampNeg) (xs (nI ii + 2).toNatClampNeg) (xs (nI ii + 3).toNatClampNeg)) hXT) (cwV 3 hts (goodIn_app (g_4 (List.mem_cons_of_mem _ (List.mem_append_left _ (List.mem_of_getElem? (i := 242) rfl))) (List.mem_cons_of_mem _ (List.mem_append_left _ (List.mem_of_getElem? (i := 243) rfl))) (List.mem_cons_of_mem _ (List.mem_append_left _ (List.mem_of_getElem? (i := 244) rfl))) (List.mem_cons_of_mem _ (List.mem_append_left _ (List.mem_of_getElem? (i := 3) rfl))) (by decide +kernel)) (goodIn_sub ml_v_X11_quit good_v_X11_quit)) rfl rfl rfl (by decide +kernel) ⟨Nat.le_of_ble_eq_true rfl, Nat.le_of_ble_eq_true rfl⟩) (lc_pre (ci := 10) (q := (RX11, TX11, 11)) hK hE hS hA hP hD rfl (xt_mem hXT)) rfl rfl hl.1 rfl (lv_room (Nat.le_of_ble_eq_true rfl)) dL_law_1646 ⟨(by show (1000 + 2 * ii) + 0 ≤ 600000; omega), (by show (100000 + 25 * ii) + 0 ≤ 7302250; omega)⟩) hS hA hP hD (fun r1646 W1 H locs hz1646 hP hD hS => ?_)
  obtain ⟨hr1646, hW1⟩ := hz1646
  refine lv_pop hx hb dL_law_1649 rfl ?_
  refine lv_aload_n hx hb dL_law_1650 rfl (lv_at hl 2 rfl) ?_
  refine lv_aload_n hx hb dL_law_1651 rfl (lv_at hl 0 rfl) ?_
  refine lv_iload_n hx hb dL_law_1652 rfl (lv_at hl 3 rfl) ?_
  refine lv_iconst (v := 1) hx hb dL_law_1653 (by decide) ?_
  refine lv_iadd hx hb dL_law_1654 ?_
  refine va_sld hx hb hX hbl hbA hS (lw_ix 1 h6 hL (by decide)) dL_law_1655 ?_
  refine lv_topi (nm_r (e' := xs (nI ii + 1).toNatClampNeg) rfl ?_)
  refine lv_aload_n hx hb dL_law_1656 rfl (lv_at hl 0 rfl) ?_
  refine lv_iload_n hx hb dL_law_1657 rfl (lv_at hl 3 rfl) ?_
  refine lv_iconst (v := 2) hx hb dL_law_1658 (by decide) ?_
  refine lv_iadd hx hb dL_law_1659 ?_
  refine va_sld hx hb hX hbl hbA hS (lw_ix 2 h6 hL (by decide)) dL_law_1660 ?_
  refine lv_topi (nm_r (e' := xs (nI ii + 2).toNatClampNeg) rfl ?_)
  refine lv_aload_n hx hb dL_law_1661 rfl (lv_at hl 0 rfl) ?_
  refine lv_iload_n hx hb dL_law_1662 rfl (lv_at hl 3 rfl) ?_
  refine lv_iconst (v := 3) hx hb dL_law_1663 (by decide) ?_
  refine lv_iadd hx hb dL_law_1664 ?_
  refine va_sld hx hb hX hbl hbA hS (lw_ix 3 h6 hL (by decide)) dL_law_1665 ?_
  refine lv_topi (nm_r (e' := xs (nI ii + 3).toNatClampNeg) rfl ?_)
  have hP := pm_Pp List.perm_append_comm hP
  have hD := pm_Dp List.perm_append_comm hD
  refine lc_i (X := M) (Rr := W1) (va_runV (As := [.int (xs (nI ii + 1).toNatClampNeg), .int (xs (nI ii + 2).toNatClampNeg), .int (xs (nI ii + 3).toNatClampNeg)]) (rest := []) ⟨hx, hb, hml, hown, hts⟩ (cm_X12_quit l g cI cJ cB cZ cL kA vA y M H.size hM (xs (nI ii + 1).toNatClampNeg) (xs (nI ii + 2).toNatClampNeg) (xs (nI ii + 3).toNatClampNeg)) (cwV 3 hts (goodIn_app (g_4 (List.mem_cons_of_mem _ (List.mem_append_left _ (List.mem_of_getElem? (i := 245) rfl))) (List.mem_cons_of_mem _ (List.mem_append_left _ (List.mem_of_getElem? (i := 246) rfl))) (List.mem_cons_of_mem _ (List.mem_append_left _ (List.mem_of_getElem? (i := 247) rfl))) (List.mem_cons_of_mem _ (List.mem_append_left _ (List.mem_of_getElem? (i := 7) rfl))) (by decide +kernel)) (goodIn_sub ml_v_X12_quit good_v_X12_quit)) rfl rfl rfl (by decide +kernel) ⟨Nat.le_of_ble_eq_true rfl, Nat.le_of_ble_eq_true rfl⟩) (lc_pre (ci := 11) (q := (RX12, TX12, 56)) hK hE hS hA hP hD rfl (mt_mem hM)) rfl rfl hl.1 rfl (lv_room (Nat.le_of_ble_eq_true rfl)) dL_law_1666 ⟨(by show (1000 + 2 * ii) + 0 + 0 ≤ 600000; omega), (by show (100000 + 25 * ii) + 0 + 0 ≤ 7302250; omega)⟩) hS hA hP hD (fun r1666 W2 H locs hz1666 hP hD hS => ?_)
  obtain ⟨hr1666, hW2⟩ := hz1666
  have hP := pm_Pp List.perm_append_comm hP
  have hD := pm_Dp List.perm_append_comm hD
  refine lv_pop hx hb dL_law_1669 rfl ?_
  refine lv_goto (tgt := 2459) hx hb dL_law_1670 (by decide) ?_
  refine W.widen (k := 1009 + 2 * ii) (n := 100145 + 25 * ii) (by omega) (by omega) ?_
  exact hend _ _ _ W1 W2 _ _ _ _ _ _ hW1 hW2 hJ hP hD hS hl
set_option maxHeartbeats 4000000 in
set_option maxRecDepth 100000 in
theorem lw_c41 {p : Program} {e : Env} {s : State} {m : MethodId} {below : List Frame} {meth : Method} {c : Code} (l : Launch) {sb L : Nat} {xs : Nat → Int32} (hL : L ≤ 3072) (C0 : lw_At p s m meth c sb L xs) {g : va_G} {cI cJ cB cZ cL : ClassId} (hK : va_K g vwCl (tyT cI cJ cB cZ cL) s) {kA vA : Nat → Nat} (hE : ENV kA vA (fun q : Nat => s.heap.size ≤ q) s) {x y : Nat} {ii : Nat} (h6 : ii + 6 ≤ L) (hend : ∀ (H : Heap) (locs : List Loc) (ls : Array Slot) (XT M : va_W) (sw sn ki mw mn kp : Nat → Int32) (hXT : XTSt cI cJ cB cZ cL x sw sn ki XT) (hM : MSt cI cJ cB cZ cL y mw mn kp M) (hJ : JJ sw sn ki mw mn kp) (hP : va_P g vwCl (XT ++ M) H) (hD : va_D (fun q : Nat => s.heap.size ≤ q) (XT ++ M)) (hS : va_S (fun q : Nat => s.heap.size ≤ q) s.heap H locs) (hl : lv_has ls 4 [(0, .ref sb), (1, .ref x), (2, .ref y), (3, .int (nI ii))]), W p l e room_1 s m #[Value.ref sb] below meth c H locs (1009 + 2 * ii) (100145 + 25 * ii) (lw_Z below #[Value.ref sb] s) (F0 m 2459 ls [])) (H : Heap) (locs : List Loc) (ls : Array Slot) (XT M : va_W) (sw sn ki mw mn kp : Nat → Int32) (hXT : XTSt cI cJ cB cZ cL x sw sn ki XT) (hM : MSt cI cJ cB cZ cL y mw mn kp M) (hJ : JJ sw sn ki mw mn kp) (hP : va_P g vwCl (XT ++ M) H) (hD : va_D (fun q : Nat => s.heap.size ≤ q) (XT ++ M)) (hS : va_S (fun q : Nat => s.heap.size ≤ q) s.heap H locs) (hl : lv_has ls 4 [(0, .ref sb), (1, .ref x), (2, .ref y), (3, .int (nI ii))]) : W p l e room_1 s m #[Value.ref sb] below meth c H locs (1000 + 2 * ii) (100000 + 25 * ii) (lw_Z below #[Value.ref sb] s) (F0 m 1673 ls []) := by
  obtain ⟨hx, hb, hr, hml, hown, hts0, hX, hbl, hlocks, hgv⟩ := id C0
  have hts : ∀ w ∈ v_L_law, w.before #[Value.ref sb] s = true := fun w h => hts0 w (in_v_L_law w h)
  have hown : s.vm.findClass RL = some m.cls := hown
  have hA : ∀ q : Nat, s.heap.size ≤ q → (fun q : Nat => s.heap.size ≤ q) q := fun _ h => h
  have hbA : ¬ (fun q : Nat => s.heap.size ≤ q) sb := Nat.not_le.mpr hbl
  refine lv_aload_n hx hb dL_law_1673 rfl (lv_at hl 1 rfl) ?_
  refine lv_aload_n hx hb dL_law_1674 rfl (lv_at hl 0 rfl) ?_
  refine lv_iload_n hx hb dL_law_1675 rfl (lv_at hl 3 rfl) ?_
  refine lv_iconst (v := 1) hx hb dL_law_1676 (by decide) ?_
  refine lv_iadd hx hb dL_law_1677 ?_
  refine va_sld hx hb hX hbl hbA hS (lw_ix 1 h6 hL (by decide)) dL_law_1678 ?_
  refine lv_topi (nm_r (e' := xs (nI ii + 1).toNatClampNeg) rfl ?_)
  refine lv_aload_n hx hb dL_law_1679 rfl (lv_at hl 0 rfl) ?_
  refine lv_iload_n hx hb dL_law_1680 rfl (lv_at hl 3 rfl) ?_
  refine lv_iconst (v := 2) hx hb dL_law_1681 (by decide) ?_
  refine lv_iadd hx hb dL_law_1682 ?_
  refine va_sld hx hb hX hbl hbA hS (lw_ix 2 h6 hL (by decide)) dL_law_1683 ?_
  refine lv_topi (nm_r (e' := xs (nI ii + 2).toNatClampNeg) rfl ?_)
  refine lc_i (X := XT) (Rr := M) (va_runV (As := [.int (xs (nI ii + 1).toNatClampNeg), .int (xs (nI ii + 2).toNatClampNeg)]) (rest := []) ⟨hx, hb, hml, hown, hts⟩ (lift_i (fun im X hX => cx_X11_when l g cI cJ cB cZ cL kA vA x im X H.size hX (xs (nI ii + 1).toNatClampNeg) (xs (nI ii + 2).toNatClampNeg)) hXT) (cwV 2 hts (goodIn_app (g_4 (List.mem_cons_of_mem _ (List.mem_append_left _ (List.mem_of_getElem? (i := 248) rfl))) (List.mem_cons_of_mem _ (List.mem_append_left _ (List.mem_of_getElem? (i := 249) rfl))) (List.mem_cons_of_mem _ (List.mem_append_left _ (List.mem_of_getElem? (i := 250) rfl))) (List.mem_cons_of_mem _ (List.mem_append_left _ (List.mem_of_getElem? (i := 3) rfl))) (by decide +kernel)) (goodIn_sub ml_v_X11_when good_v_X11_when)) rfl rfl rfl (by decide +kernel) ⟨Nat.le_of_ble_eq_true rfl, Nat.le_of_ble_eq_true rfl⟩) (lc_pre (ci := 10) (q := (RX11, TX11, 11)) hK hE hS hA hP hD rfl (xt_mem hXT)) rfl rfl hl.1 rfl (lv_room (Nat.le_of_ble_eq_true rfl)) dL_law_1684 ⟨(by show (1000 + 2 * ii) + 0 ≤ 600000; omega), (by show (100000 + 25 * ii) + 0 ≤ 7302250; omega)⟩) hS hA hP hD (fun r1684 W1 H locs hz1684 hP hD hS => ?_)
  obtain ⟨hr1684, hW1⟩ := hz1684
  refine lv_pop hx hb dL_law_1687 rfl ?_
  refine lv_aload_n hx hb dL_law_1688 rfl (lv_at hl 2 rfl) ?_
  refine lv_aload_n hx hb dL_law_1689 rfl (lv_at hl 0 rfl) ?_
  refine lv_iload_n hx hb dL_law_1690 rfl (lv_at hl 3 rfl) ?_
  refine lv_iconst (v := 1) hx hb dL_law_1691 (by decide) ?_
  refine lv_iadd hx hb dL_law_1692 ?_
  refine va_sld hx hb hX hbl hbA hS (lw_ix 1 h6 hL (by decide)) dL_law_1693 ?_
  refine lv_topi (nm_r (e' := xs (nI ii + 1).toNatClampNeg) rfl ?_)
  refine lv_aload_n hx hb dL_law_1694 rfl (lv_at hl 0 rfl) ?_
  refine lv_iload_n hx hb dL_law_1695 rfl (lv_at hl 3 rfl) ?_
  refine lv_iconst (v := 2) hx hb dL_law_1696 (by decide) ?_
  refine lv_iadd hx hb dL_law_1697 ?_
  refine va_sld hx hb hX hbl hbA hS (lw_ix 2 h6 hL (by decide)) dL_law_1698 ?_
  refine lv_topi (nm_r (e' := xs (nI ii + 2).toNatClampNeg) rfl ?_)
  have hP := pm_Pp List.perm_append_comm hP
  have hD := pm_Dp List.perm_append_comm hD
  refine lc_i (X := M) (Rr := W1) (va_runV (As := [.int (xs (nI ii + 1).toNatClampNeg), .int (xs (nI ii + 2).toNatClampNeg)]) (rest := []) ⟨hx, hb, hml, hown, hts⟩ (cm_X12_when l g cI cJ cB cZ cL kA vA y M H.size hM (xs (nI ii + 1).toNatClampNeg) (xs (nI ii + 2).toNatClampNeg)) (cwV 2 hts (goodIn_app (g_4 (List.mem_cons_of_mem _ (List.mem_append_left _ (List.mem_of_getElem? (i := 251) rfl))) (List.mem_cons_of_mem _ (List.mem_append_left _ (List.mem_of_getElem? (i := 252) rfl))) (List.mem_cons_of_mem _ (List.mem_append_left _ (List.mem_of_getElem? (i := 253) rfl))) (List.mem_cons_of_mem _ (List.mem_append_left _ (List.mem_of_getElem? (i := 7) rfl))) (by decide +kernel)) (goodIn_sub ml_v_X12_when good_v_X12_when)) rfl rfl rfl (by decide +kernel) ⟨Nat.le_of_ble_eq_true rfl, Nat.le_of_ble_eq_true rfl⟩) (lc_pre (ci := 11) (q := (RX12, TX12, 56)) hK hE hS hA hP hD rfl (mt_mem hM)) rfl rfl hl.1 rfl (lv_room (Nat.le_of_ble_eq_true rfl)) dL_law_1699 ⟨(by show (1000 + 2 * ii) + 0 + 0 ≤ 600000; omega), (by show (100000 + 25 * ii) + 0 + 0 ≤ 7302250; omega)⟩) hS hA hP hD (fun r1699 W2 H locs hz1699 hP hD hS => ?_)
  obtain ⟨hr1699, hW2⟩ := hz1699
  have hP := pm_Pp List.perm_append_comm hP
  have hD := pm_Dp List.perm_append_comm hD
  refine lv_pop hx hb dL_law_1702 rfl ?_
  refine lv_goto (tgt := 2459) hx hb dL_law_1703 (by decide) ?_
  refine W.widen (k := 1009 + 2 * ii) (n := 100145 + 25 * ii) (by omega) (by omega) ?_
  exact hend _ _ _ W1 W2 _ _ _ _ _ _ hW1 hW2 hJ hP hD hS hl
set_option maxHeartbeats 4000000 in
set_option maxRecDepth 100000 in
theorem lw_c42 {p : Program} {e : Env} {s : State} {m : MethodId} {below : List Frame} {meth : Method} {c : Code} (l : Launch) {sb L : Nat} {xs : Nat → Int32} (hL : L ≤ 3072) (C0 : lw_At p s m meth c sb L xs) {g : va_G} {cI cJ cB cZ cL : ClassId} (hK : va_K g vwCl (tyT cI cJ cB cZ cL) s) {kA vA : Nat → Nat} (hE : ENV kA vA (fun q : Nat => s.heap.size ≤ q) s) {x y : Nat} {ii : Nat} (h6 : ii + 6 ≤ L) (hend : ∀ (H : Heap) (locs : List Loc) (ls : Array Slot) (XT M : va_W) (sw sn ki mw mn kp : Nat → Int32) (hXT : XTSt cI cJ cB cZ cL x sw sn ki XT) (hM : MSt cI cJ cB cZ cL y mw mn kp M) (hJ : JJ sw sn ki mw mn kp) (hP : va_P g vwCl (XT ++ M) H) (hD : va_D (fun q : Nat => s.heap.size ≤ q) (XT ++ M)) (hS : va_S (fun q : Nat => s.heap.size ≤ q) s.heap H locs) (hl : lv_has ls 4 [(0, .ref sb), (1, .ref x), (2, .ref y), (3, .int (nI ii))]), W p l e room_1 s m #[Value.ref sb] below meth c H locs (1009 + 2 * ii) (100145 + 25 * ii) (lw_Z below #[Value.ref sb] s) (F0 m 2459 ls [])) (H : Heap) (locs : List Loc) (ls : Array Slot) (XT M : va_W) (sw sn ki mw mn kp : Nat → Int32) (hXT : XTSt cI cJ cB cZ cL x sw sn ki XT) (hM : MSt cI cJ cB cZ cL y mw mn kp M) (hJ : JJ sw sn ki mw mn kp) (hP : va_P g vwCl (XT ++ M) H) (hD : va_D (fun q : Nat => s.heap.size ≤ q) (XT ++ M)) (hS : va_S (fun q : Nat => s.heap.size ≤ q) s.heap H locs) (hl : lv_has ls 4 [(0, .ref sb), (1, .ref x), (2, .ref y), (3, .int (nI ii))]) : W p l e room_1 s m #[Value.ref sb] below meth c H locs (1000 + 2 * ii) (100000 + 25 * ii) (lw_Z below #[Value.ref sb] s) (F0 m 1706 ls []) := by
  obtain ⟨hx, hb, hr, hml, hown, hts0, hX, hbl, hlocks, hgv⟩ := id C0
  have hts : ∀ w ∈ v_L_law, w.before #[Value.ref sb] s = true := fun w h => hts0 w (in_v_L_law w h)
  have hown : s.vm.findClass RL = some m.cls := hown
  have hA : ∀ q : Nat, s.heap.size ≤ q → (fun q : Nat => s.heap.size ≤ q) q := fun _ h => h
  have hbA : ¬ (fun q : Nat => s.heap.size ≤ q) sb := Nat.not_le.mpr hbl
  refine lv_aload_n hx hb dL_law_1706 rfl (lv_at hl 1 rfl) ?_
  refine lv_aload_n hx hb dL_law_1707 rfl (lv_at hl 0 rfl) ?_
  refine lv_iload_n hx hb dL_law_1708 rfl (lv_at hl 3 rfl) ?_
  refine lv_iconst (v := 1) hx hb dL_law_1709 (by decide) ?_
  refine lv_iadd hx hb dL_law_1710 ?_
  refine va_sld hx hb hX hbl hbA hS (lw_ix 1 h6 hL (by decide)) dL_law_1711 ?_
  refine lv_topi (nm_r (e' := xs (nI ii + 1).toNatClampNeg) rfl ?_)
  refine lc_i (X := XT) (Rr := M) (va_runV (As := [.int (xs (nI ii + 1).toNatClampNeg)]) (rest := []) ⟨hx, hb, hml, hown, hts⟩ (lift_i (fun im X hX => cx_X11_best l g cI cJ cB cZ cL kA vA x im X H.size hX (xs (nI ii + 1).toNatClampNeg)) hXT) (cwV 1 hts (goodIn_app (g_4 (List.mem_cons_of_mem _ (List.mem_append_left _ (List.mem_of_getElem? (i := 254) rfl))) (List.mem_cons_of_mem _ (List.mem_append_left _ (List.mem_of_getElem? (i := 255) rfl))) (List.mem_cons_of_mem _ (List.mem_append_left _ (List.mem_of_getElem? (i := 256) rfl))) (List.mem_cons_of_mem _ (List.mem_append_left _ (List.mem_of_getElem? (i := 3) rfl))) (by decide +kernel)) (goodIn_sub ml_v_X11_best good_v_X11_best)) rfl rfl rfl (by decide +kernel) ⟨Nat.le_of_ble_eq_true rfl, Nat.le_of_ble_eq_true rfl⟩) (lc_pre (ci := 10) (q := (RX11, TX11, 11)) hK hE hS hA hP hD rfl (xt_mem hXT)) rfl rfl hl.1 rfl (lv_room (Nat.le_of_ble_eq_true rfl)) dL_law_1712 ⟨(by show (1000 + 2 * ii) + 0 ≤ 600000; omega), (by show (100000 + 25 * ii) + 0 ≤ 7302250; omega)⟩) hS hA hP hD (fun r1712 W1 H locs hz1712 hP hD hS => ?_)
  obtain ⟨hr1712, hW1⟩ := hz1712
  refine lv_pop hx hb dL_law_1715 rfl ?_
  refine lv_aload_n hx hb dL_law_1716 rfl (lv_at hl 2 rfl) ?_
  refine lv_aload_n hx hb dL_law_1717 rfl (lv_at hl 0 rfl) ?_
  refine lv_iload_n hx hb dL_law_1718 rfl (lv_at hl 3 rfl) ?_
  refine lv_iconst (v := 1) hx hb dL_law_1719 (by decide) ?_
  refine lv_iadd hx hb dL_law_1720 ?_
  refine va_sld hx hb hX hbl hbA hS (lw_ix 1 h6 hL (by decide)) dL_law_1721 ?_
  refine lv_topi (nm_r (e' := xs (nI ii + 1).toNatClampNeg) rfl ?_)
  have hP := pm_Pp List.perm_append_comm hP
  have hD := pm_Dp List.perm_append_comm hD
  refine lc_i (X := M) (Rr := W1) (va_runV (As := [.int (xs (nI ii + 1).toNatClampNeg)]) (rest := []) ⟨hx, hb, hml, hown, hts⟩ (cm_X12_best l g cI cJ cB cZ cL kA vA y M H.size hM (xs (nI ii + 1).toNatClampNeg)) (cwV 1 hts (goodIn_app (g_4 (List.mem_cons_of_mem _ (List.mem_append_left _ (List.mem_of_getElem? (i := 257) rfl))) (List.mem_cons_of_mem _ (List.mem_append_left _ (List.mem_of_getElem? (i := 258) rfl))) (List.mem_cons_of_mem _ (List.mem_append_left _ (List.mem_of_getElem? (i := 259) rfl))) (List.mem_cons_of_mem _ (List.mem_append_left _ (List.mem_of_getElem? (i := 7) rfl))) (by decide +kernel)) (goodIn_sub ml_v_X12_best good_v_X12_best)) rfl rfl rfl (by decide +kernel) ⟨Nat.le_of_ble_eq_true rfl, Nat.le_of_ble_eq_true rfl⟩) (lc_pre (ci := 11) (q := (RX12, TX12, 56)) hK hE hS hA hP hD rfl (mt_mem hM)) rfl rfl hl.1 rfl (lv_room (Nat.le_of_ble_eq_true rfl)) dL_law_1722 ⟨(by show (1000 + 2 * ii) + 0 + 0 ≤ 600000; omega), (by show (100000 + 25 * ii) + 0 + 0 ≤ 7302250; omega)⟩) hS hA hP hD (fun r1722 W2 H locs hz1722 hP hD hS => ?_)
  obtain ⟨hr1722, hW2⟩ := hz1722
  have hP := pm_Pp List.perm_append_comm hP
  have hD := pm_Dp List.perm_append_comm hD
  refine lv_pop hx hb dL_law_1725 rfl ?_
  refine lv_goto (tgt := 2459) hx hb dL_law_1726 (by decide) ?_
  refine W.widen (k := 1009 + 2 * ii) (n := 100145 + 25 * ii) (by omega) (by omega) ?_
  exact hend _ _ _ W1 W2 _ _ _ _ _ _ hW1 hW2 hJ hP hD hS hl
set_option maxHeartbeats 4000000 in
set_option maxRecDepth 100000 in
theorem lw_c43 {p : Program} {e : Env} {s : State} {m : MethodId} {below : List Frame} {meth : Method} {c : Code} (l : Launch) {sb L : Nat} {xs : Nat → Int32} (hL : L ≤ 3072) (C0 : lw_At p s m meth c sb L xs) {g : va_G} {cI cJ cB cZ cL : ClassId} (hK : va_K g vwCl (tyT cI cJ cB cZ cL) s) {kA vA : Nat → Nat} (hE : ENV kA vA (fun q : Nat => s.heap.size ≤ q) s) {x y : Nat} {ii : Nat} (h6 : ii + 6 ≤ L) (hend : ∀ (H : Heap) (locs : List Loc) (ls : Array Slot) (XT M : va_W) (sw sn ki mw mn kp : Nat → Int32) (hXT : XTSt cI cJ cB cZ cL x sw sn ki XT) (hM : MSt cI cJ cB cZ cL y mw mn kp M) (hJ : JJ sw sn ki mw mn kp) (hP : va_P g vwCl (XT ++ M) H) (hD : va_D (fun q : Nat => s.heap.size ≤ q) (XT ++ M)) (hS : va_S (fun q : Nat => s.heap.size ≤ q) s.heap H locs) (hl : lv_has ls 4 [(0, .ref sb), (1, .ref x), (2, .ref y), (3, .int (nI ii))]), W p l e room_1 s m #[Value.ref sb] below meth c H locs (1009 + 2 * ii) (100145 + 25 * ii) (lw_Z below #[Value.ref sb] s) (F0 m 2459 ls [])) (H : Heap) (locs : List Loc) (ls : Array Slot) (XT M : va_W) (sw sn ki mw mn kp : Nat → Int32) (hXT : XTSt cI cJ cB cZ cL x sw sn ki XT) (hM : MSt cI cJ cB cZ cL y mw mn kp M) (hJ : JJ sw sn ki mw mn kp) (hP : va_P g vwCl (XT ++ M) H) (hD : va_D (fun q : Nat => s.heap.size ≤ q) (XT ++ M)) (hS : va_S (fun q : Nat => s.heap.size ≤ q) s.heap H locs) (hl : lv_has ls 4 [(0, .ref sb), (1, .ref x), (2, .ref y), (3, .int (nI ii))]) : W p l e room_1 s m #[Value.ref sb] below meth c H locs (1000 + 2 * ii) (100000 + 25 * ii) (lw_Z below #[Value.ref sb] s) (F0 m 1729 ls []) := by
  obtain ⟨hx, hb, hr, hml, hown, hts0, hX, hbl, hlocks, hgv⟩ := id C0
  have hts : ∀ w ∈ v_L_law, w.before #[Value.ref sb] s = true := fun w h => hts0 w (in_v_L_law w h)
  have hown : s.vm.findClass RL = some m.cls := hown
  have hA : ∀ q : Nat, s.heap.size ≤ q → (fun q : Nat => s.heap.size ≤ q) q := fun _ h => h
  have hbA : ¬ (fun q : Nat => s.heap.size ≤ q) sb := Nat.not_le.mpr hbl
  refine lv_aload_n hx hb dL_law_1729 rfl (lv_at hl 1 rfl) ?_
  refine lv_aload_n hx hb dL_law_1730 rfl (lv_at hl 0 rfl) ?_
  refine lv_iload_n hx hb dL_law_1731 rfl (lv_at hl 3 rfl) ?_
  refine lv_iconst (v := 1) hx hb dL_law_1732 (by decide) ?_
  refine lv_iadd hx hb dL_law_1733 ?_
  refine va_sld hx hb hX hbl hbA hS (lw_ix 1 h6 hL (by decide)) dL_law_1734 ?_
  refine lv_topi (nm_r (e' := xs (nI ii + 1).toNatClampNeg) rfl ?_)
  refine lc_i (X := XT) (Rr := M) (va_runV (As := [.int (xs (nI ii + 1).toNatClampNeg)]) (rest := []) ⟨hx, hb, hml, hown, hts⟩ (lift_i (fun im X hX => cx_X11_bestCost l g cI cJ cB cZ cL kA vA x im X H.size hX (xs (nI ii + 1).toNatClampNeg)) hXT) (cwV 1 hts (goodIn_app (g_4 (List.mem_cons_of_mem _ (List.mem_append_left _ (List.mem_of_getElem? (i := 260) rfl))) (List.mem_cons_of_mem _ (List.mem_append_left _ (List.mem_of_getElem? (i := 261) rfl))) (List.mem_cons_of_mem _ (List.mem_append_left _ (List.mem_of_getElem? (i := 262) rfl))) (List.mem_cons_of_mem _ (List.mem_append_left _ (List.mem_of_getElem? (i := 3) rfl))) (by decide +kernel)) (goodIn_sub ml_v_X11_bestCost good_v_X11_bestCost)) rfl rfl rfl (by decide +kernel) ⟨Nat.le_of_ble_eq_true rfl, Nat.le_of_ble_eq_true rfl⟩) (lc_pre (ci := 10) (q := (RX11, TX11, 11)) hK hE hS hA hP hD rfl (xt_mem hXT)) rfl rfl hl.1 rfl (lv_room (Nat.le_of_ble_eq_true rfl)) dL_law_1735 ⟨(by show (1000 + 2 * ii) + 0 ≤ 600000; omega), (by show (100000 + 25 * ii) + 0 ≤ 7302250; omega)⟩) hS hA hP hD (fun r1735 W1 H locs hz1735 hP hD hS => ?_)
  obtain ⟨hr1735, hW1⟩ := hz1735
  refine lv_pop hx hb dL_law_1738 rfl ?_
  refine lv_aload_n hx hb dL_law_1739 rfl (lv_at hl 2 rfl) ?_
  refine lv_aload_n hx hb dL_law_1740 rfl (lv_at hl 0 rfl) ?_
  refine lv_iload_n hx hb dL_law_1741 rfl (lv_at hl 3 rfl) ?_
  refine lv_iconst (v := 1) hx hb dL_law_1742 (by decide) ?_
  refine lv_iadd hx hb dL_law_1743 ?_
  refine va_sld hx hb hX hbl hbA hS (lw_ix 1 h6 hL (by decide)) dL_law_1744 ?_
  refine lv_topi (nm_r (e' := xs (nI ii + 1).toNatClampNeg) rfl ?_)
  have hP := pm_Pp List.perm_append_comm hP
  have hD := pm_Dp List.perm_append_comm hD
  refine lc_i (X := M) (Rr := W1) (va_runV (As := [.int (xs (nI ii + 1).toNatClampNeg)]) (rest := []) ⟨hx, hb, hml, hown, hts⟩ (cm_X12_bestCost l g cI cJ cB cZ cL kA vA y M H.size hM (xs (nI ii + 1).toNatClampNeg)) (cwV 1 hts (goodIn_app (g_4 (List.mem_cons_of_mem _ (List.mem_append_left _ (List.mem_of_getElem? (i := 263) rfl))) (List.mem_cons_of_mem _ (List.mem_append_left _ (List.mem_of_getElem? (i := 264) rfl))) (List.mem_cons_of_mem _ (List.mem_append_left _ (List.mem_of_getElem? (i := 265) rfl))) (List.mem_cons_of_mem _ (List.mem_append_left _ (List.mem_of_getElem? (i := 7) rfl))) (by decide +kernel)) (goodIn_sub ml_v_X12_bestCost good_v_X12_bestCost)) rfl rfl rfl (by decide +kernel) ⟨Nat.le_of_ble_eq_true rfl, Nat.le_of_ble_eq_true rfl⟩) (lc_pre (ci := 11) (q := (RX12, TX12, 56)) hK hE hS hA hP hD rfl (mt_mem hM)) rfl rfl hl.1 rfl (lv_room (Nat.le_of_ble_eq_true rfl)) dL_law_1745 ⟨(by show (1000 + 2 * ii) + 0 + 0 ≤ 600000; omega), (by show (100000 + 25 * ii) + 0 + 0 ≤ 7302250; omega)⟩) hS hA hP hD (fun r1745 W2 H locs hz1745 hP hD hS => ?_)
  obtain ⟨hr1745, hW2⟩ := hz1745
  have hP := pm_Pp List.perm_append_comm hP
  have hD := pm_Dp List.perm_append_comm hD
  refine lv_pop hx hb dL_law_1748 rfl ?_
  refine lv_goto (tgt := 2459) hx hb dL_law_1749 (by decide) ?_
  refine W.widen (k := 1009 + 2 * ii) (n := 100145 + 25 * ii) (by omega) (by omega) ?_
  exact hend _ _ _ W1 W2 _ _ _ _ _ _ hW1 hW2 hJ hP hD hS hl
set_option maxHeartbeats 4000000 in
set_option maxRecDepth 100000 in
theorem lw_c44 {p : Program} {e : Env} {s : State} {m : MethodId} {below : List Frame} {meth : Method} {c : Code} (l : Launch) {sb L : Nat} {xs : Nat → Int32} (hL : L ≤ 3072) (C0 : lw_At p s m meth c sb L xs) {g : va_G} {cI cJ cB cZ cL : ClassId} (hK : va_K g vwCl (tyT cI cJ cB cZ cL) s) {kA vA : Nat → Nat} (hE : ENV kA vA (fun q : Nat => s.heap.size ≤ q) s) {x y : Nat} {ii : Nat} (h6 : ii + 6 ≤ L) (hend : ∀ (H : Heap) (locs : List Loc) (ls : Array Slot) (XT M : va_W) (sw sn ki mw mn kp : Nat → Int32) (hXT : XTSt cI cJ cB cZ cL x sw sn ki XT) (hM : MSt cI cJ cB cZ cL y mw mn kp M) (hJ : JJ sw sn ki mw mn kp) (hP : va_P g vwCl (XT ++ M) H) (hD : va_D (fun q : Nat => s.heap.size ≤ q) (XT ++ M)) (hS : va_S (fun q : Nat => s.heap.size ≤ q) s.heap H locs) (hl : lv_has ls 4 [(0, .ref sb), (1, .ref x), (2, .ref y), (3, .int (nI ii))]), W p l e room_1 s m #[Value.ref sb] below meth c H locs (1009 + 2 * ii) (100145 + 25 * ii) (lw_Z below #[Value.ref sb] s) (F0 m 2459 ls [])) (H : Heap) (locs : List Loc) (ls : Array Slot) (XT M : va_W) (sw sn ki mw mn kp : Nat → Int32) (hXT : XTSt cI cJ cB cZ cL x sw sn ki XT) (hM : MSt cI cJ cB cZ cL y mw mn kp M) (hJ : JJ sw sn ki mw mn kp) (hP : va_P g vwCl (XT ++ M) H) (hD : va_D (fun q : Nat => s.heap.size ≤ q) (XT ++ M)) (hS : va_S (fun q : Nat => s.heap.size ≤ q) s.heap H locs) (hl : lv_has ls 4 [(0, .ref sb), (1, .ref x), (2, .ref y), (3, .int (nI ii))]) : W p l e room_1 s m #[Value.ref sb] below meth c H locs (1000 + 2 * ii) (100000 + 25 * ii) (lw_Z below #[Value.ref sb] s) (F0 m 1752 ls []) := by
  obtain ⟨hx, hb, hr, hml, hown, hts0, hX, hbl, hlocks, hgv⟩ := id C0
  have hts : ∀ w ∈ v_L_law, w.before #[Value.ref sb] s = true := fun w h => hts0 w (in_v_L_law w h)
  have hown : s.vm.findClass RL = some m.cls := hown
  have hA : ∀ q : Nat, s.heap.size ≤ q → (fun q : Nat => s.heap.size ≤ q) q := fun _ h => h
  have hbA : ¬ (fun q : Nat => s.heap.size ≤ q) sb := Nat.not_le.mpr hbl
  refine lv_aload_n hx hb dL_law_1752 rfl (lv_at hl 1 rfl) ?_
  refine lv_aload_n hx hb dL_law_1753 rfl (lv_at hl 0 rfl) ?_
  refine lv_iload_n hx hb dL_law_1754 rfl (lv_at hl 3 rfl) ?_
  refine lv_iconst (v := 1) hx hb dL_law_1755 (by decide) ?_
  refine lv_iadd hx hb dL_law_1756 ?_
  refine va_sld hx hb hX hbl hbA hS (lw_ix 1 h6 hL (by decide)) dL_law_1757 ?_
  refine lv_topi (nm_r (e' := xs (nI ii + 1).toNatClampNeg) rfl ?_)
  refine lc_i (X := XT) (Rr := M) (va_runV (As := [.int (xs (nI ii + 1).toNatClampNeg)]) (rest := []) ⟨hx, hb, hml, hown, hts⟩ (lift_i (fun im X hX => cx_X11_family l g cI cJ cB cZ cL kA vA x im X H.size hX (xs (nI ii + 1).toNatClampNeg)) hXT) (cwV 1 hts (goodIn_app (g_4 (List.mem_cons_of_mem _ (List.mem_append_left _ (List.mem_of_getElem? (i := 266) rfl))) (List.mem_cons_of_mem _ (List.mem_append_left _ (List.mem_of_getElem? (i := 267) rfl))) (List.mem_cons_of_mem _ (List.mem_append_left _ (List.mem_of_getElem? (i := 268) rfl))) (List.mem_cons_of_mem _ (List.mem_append_left _ (List.mem_of_getElem? (i := 3) rfl))) (by decide +kernel)) (goodIn_sub ml_v_X11_family good_v_X11_family)) rfl rfl rfl (by decide +kernel) ⟨Nat.le_of_ble_eq_true rfl, Nat.le_of_ble_eq_true rfl⟩) (lc_pre (ci := 10) (q := (RX11, TX11, 11)) hK hE hS hA hP hD rfl (xt_mem hXT)) rfl rfl hl.1 rfl (lv_room (Nat.le_of_ble_eq_true rfl)) dL_law_1758 ⟨(by show (1000 + 2 * ii) + 0 ≤ 600000; omega), (by show (100000 + 25 * ii) + 0 ≤ 7302250; omega)⟩) hS hA hP hD (fun r1758 W1 H locs hz1758 hP hD hS => ?_)
  obtain ⟨hr1758, hW1⟩ := hz1758
  refine lv_pop hx hb dL_law_1761 rfl ?_
  refine lv_aload_n hx hb dL_law_1762 rfl (lv_at hl 2 rfl) ?_
  refine lv_aload_n hx hb dL_law_1763 rfl (lv_at hl 0 rfl) ?_
  refine lv_iload_n hx hb dL_law_1764 rfl (lv_at hl 3 rfl) ?_
  refine lv_iconst (v := 1) hx hb dL_law_1765 (by decide) ?_
  refine lv_iadd hx hb dL_law_1766 ?_
  refine va_sld hx hb hX hbl hbA hS (lw_ix 1 h6 hL (by decide)) dL_law_1767 ?_
  refine lv_topi (nm_r (e' := xs (nI ii + 1).toNatClampNeg) rfl ?_)
  have hP := pm_Pp List.perm_append_comm hP
  have hD := pm_Dp List.perm_append_comm hD
  refine lc_i (X := M) (Rr := W1) (va_runV (As := [.int (xs (nI ii + 1).toNatClampNeg)]) (rest := []) ⟨hx, hb, hml, hown, hts⟩ (cm_X12_family l g cI cJ cB cZ cL kA vA y M H.size hM (xs (nI ii + 1).toNatClampNeg)) (cwV 1 hts (goodIn_app (g_4 (List.mem_cons_of_mem _ (List.mem_append_left _ (List.mem_of_getElem? (i := 269) rfl))) (List.mem_cons_of_mem _ (List.mem_append_left _ (List.mem_of_getElem? (i := 270) rfl))) (List.mem_cons_of_mem _ (List.mem_append_left _ (List.mem_of_getElem? (i := 271) rfl))) (List.mem_cons_of_mem _ (List.mem_append_left _ (List.mem_of_getElem? (i := 7) rfl))) (by decide +kernel)) (goodIn_sub ml_v_X12_family good_v_X12_family)) rfl rfl rfl (by decide +kernel) ⟨Nat.le_of_ble_eq_true rfl, Nat.le_of_ble_eq_true rfl⟩) (lc_pre (ci := 11) (q := (RX12, TX12, 56)) hK hE hS hA hP hD rfl (mt_mem hM)) rfl rfl hl.1 rfl (lv_room (Nat.le_of_ble_eq_true rfl)) dL_law_1768 ⟨(by show (1000 + 2 * ii) + 0 + 0 ≤ 600000; omega), (by show (100000 + 25 * ii) + 0 + 0 ≤ 7302250; omega)⟩) hS hA hP hD (fun r1768 W2 H locs hz1768 hP hD hS => ?_)
  obtain ⟨hr1768, hW2⟩ := hz1768
  have hP := pm_Pp List.perm_append_comm hP
  have hD := pm_Dp List.perm_append_comm hD
  refine lv_pop hx hb dL_law_1771 rfl ?_
  refine lv_goto (tgt := 2459) hx hb dL_law_1772 (by decide) ?_
  refine W.widen (k := 1009 + 2 * ii) (n := 100145 + 25 * ii) (by omega) (by omega) ?_
  exact hend _ _ _ W1 W2 _ _ _ _ _ _ hW1 hW2 hJ hP hD hS hl
set_option maxHeartbeats 4000000 in
set_option maxRecDepth 100000 in
theorem lw_c45 {p : Program} {e : Env} {s : State} {m : MethodId} {below : List Frame} {meth : Method} {c : Code} (l : Launch) {sb L : Nat} {xs : Nat → Int32} (hL : L ≤ 3072) (C0 : lw_At p s m meth c sb L xs) {g : va_G} {cI cJ cB cZ cL : ClassId} (hK : va_K g vwCl (tyT cI cJ cB cZ cL) s) {kA vA : Nat → Nat} (hE : ENV kA vA (fun q : Nat => s.heap.size ≤ q) s) {x y : Nat} {ii : Nat} (h6 : ii + 6 ≤ L) (hend : ∀ (H : Heap) (locs : List Loc) (ls : Array Slot) (XT M : va_W) (sw sn ki mw mn kp : Nat → Int32) (hXT : XTSt cI cJ cB cZ cL x sw sn ki XT) (hM : MSt cI cJ cB cZ cL y mw mn kp M) (hJ : JJ sw sn ki mw mn kp) (hP : va_P g vwCl (XT ++ M) H) (hD : va_D (fun q : Nat => s.heap.size ≤ q) (XT ++ M)) (hS : va_S (fun q : Nat => s.heap.size ≤ q) s.heap H locs) (hl : lv_has ls 4 [(0, .ref sb), (1, .ref x), (2, .ref y), (3, .int (nI ii))]), W p l e room_1 s m #[Value.ref sb] below meth c H locs (1009 + 2 * ii) (100145 + 25 * ii) (lw_Z below #[Value.ref sb] s) (F0 m 2459 ls [])) (H : Heap) (locs : List Loc) (ls : Array Slot) (XT M : va_W) (sw sn ki mw mn kp : Nat → Int32) (hXT : XTSt cI cJ cB cZ cL x sw sn ki XT) (hM : MSt cI cJ cB cZ cL y mw mn kp M) (hJ : JJ sw sn ki mw mn kp) (hP : va_P g vwCl (XT ++ M) H) (hD : va_D (fun q : Nat => s.heap.size ≤ q) (XT ++ M)) (hS : va_S (fun q : Nat => s.heap.size ≤ q) s.heap H locs) (hl : lv_has ls 4 [(0, .ref sb), (1, .ref x), (2, .ref y), (3, .int (nI ii))]) : W p l e room_1 s m #[Value.ref sb] below meth c H locs (1000 + 2 * ii) (100000 + 25 * ii) (lw_Z below #[Value.ref sb] s) (F0 m 1775 ls []) := by
  obtain ⟨hx, hb, hr, hml, hown, hts0, hX, hbl, hlocks, hgv⟩ := id C0
  have hts : ∀ w ∈ v_L_law, w.before #[Value.ref sb] s = true := fun w h => hts0 w (in_v_L_law w h)
  have hown : s.vm.findClass RL = some m.cls := hown
  have hA : ∀ q : Nat, s.heap.size ≤ q → (fun q : Nat => s.heap.size ≤ q) q := fun _ h => h
  have hbA : ¬ (fun q : Nat => s.heap.size ≤ q) sb := Nat.not_le.mpr hbl
  refine lv_aload_n hx hb dL_law_1775 rfl (lv_at hl 1 rfl) ?_
  refine lv_aload_n hx hb dL_law_1776 rfl (lv_at hl 0 rfl) ?_
  refine lv_iload_n hx hb dL_law_1777 rfl (lv_at hl 3 rfl) ?_
  refine lv_iconst (v := 1) hx hb dL_law_1778 (by decide) ?_
  refine lv_iadd hx hb dL_law_1779 ?_
  refine va_sld hx hb hX hbl hbA hS (lw_ix 1 h6 hL (by decide)) dL_law_1780 ?_
  refine lv_topi (nm_r (e' := xs (nI ii + 1).toNatClampNeg) rfl ?_)
  refine lc_i (X := XT) (Rr := M) (va_runV (As := [.int (xs (nI ii + 1).toNatClampNeg)]) (rest := []) ⟨hx, hb, hml, hown, hts⟩ (lift_i (fun im X hX => cx_X11_together l g cI cJ cB cZ cL kA vA x im X H.size hX (xs (nI ii + 1).toNatClampNeg)) hXT) (cwV 1 hts (goodIn_app (g_4 (List.mem_cons_of_mem _ (List.mem_append_left _ (List.mem_of_getElem? (i := 272) rfl))) (List.mem_cons_of_mem _ (List.mem_append_left _ (List.mem_of_getElem? (i := 273) rfl))) (List.mem_cons_of_mem _ (List.mem_append_left _ (List.mem_of_getElem? (i := 274) rfl))) (List.mem_cons_of_mem _ (List.mem_append_left _ (List.mem_of_getElem? (i := 3) rfl))) (by decide +kernel)) (goodIn_sub ml_v_X11_together good_v_X11_together)) rfl rfl rfl (by decide +kernel) ⟨Nat.le_of_ble_eq_true rfl, Nat.le_of_ble_eq_true rfl⟩) (lc_pre (ci := 10) (q := (RX11, TX11, 11)) hK hE hS hA hP hD rfl (xt_mem hXT)) rfl rfl hl.1 rfl (lv_room (Nat.le_of_ble_eq_true rfl)) dL_law_1781 ⟨(by show (1000 + 2 * ii) + 0 ≤ 600000; omega), (by show (100000 + 25 * ii) + 0 ≤ 7302250; omega)⟩) hS hA hP hD (fun r1781 W1 H locs hz1781 hP hD hS => ?_)
  obtain ⟨hr1781, hW1⟩ := hz1781
  refine lv_pop hx hb dL_law_1784 rfl ?_
  refine lv_aload_n hx hb dL_law_1785 rfl (lv_at hl 2 rfl) ?_
  refine lv_aload_n hx hb dL_law_1786 rfl (lv_at hl 0 rfl) ?_
  refine lv_iload_n hx hb dL_law_1787 rfl (lv_at hl 3 rfl) ?_
  refine lv_iconst (v := 1) hx hb dL_law_1788 (by decide) ?_
  refine lv_iadd hx hb dL_law_1789 ?_
  refine va_sld hx hb hX hbl hbA hS (lw_ix 1 h6 hL (by decide)) dL_law_1790 ?_
  refine lv_topi (nm_r (e' := xs (nI ii + 1).toNatClampNeg) rfl ?_)
  have hP := pm_Pp List.perm_append_comm hP
  have hD := pm_Dp List.perm_append_comm hD
  refine lc_i (X := M) (Rr := W1) (va_runV (As := [.int (xs (nI ii + 1).toNatClampNeg)]) (rest := []) ⟨hx, hb, hml, hown, hts⟩ (cm_X12_together l g cI cJ cB cZ cL kA vA y M H.size hM (xs (nI ii + 1).toNatClampNeg)) (cwV 1 hts (goodIn_app (g_4 (List.mem_cons_of_mem _ (List.mem_append_left _ (List.mem_of_getElem? (i := 275) rfl))) (List.mem_cons_of_mem _ (List.mem_append_left _ (List.mem_of_getElem? (i := 276) rfl))) (List.mem_cons_of_mem _ (List.mem_append_left _ (List.mem_of_getElem? (i := 277) rfl))) (List.mem_cons_of_mem _ (List.mem_append_left _ (List.mem_of_getElem? (i := 7) rfl))) (by decide +kernel)) (goodIn_sub ml_v_X12_together good_v_X12_together)) rfl rfl rfl (by decide +kernel) ⟨Nat.le_of_ble_eq_true rfl, Nat.le_of_ble_eq_true rfl⟩) (lc_pre (ci := 11) (q := (RX12, TX12, 56)) hK hE hS hA hP hD rfl (mt_mem hM)) rfl rfl hl.1 rfl (lv_room (Nat.le_of_ble_eq_true rfl)) dL_law_1791 ⟨(by show (1000 + 2 * ii) + 0 + 0 ≤ 600000; omega), (by show (100000 + 25 * ii) + 0 + 0 ≤ 7302250; omega)⟩) hS hA hP hD (fun r1791 W2 H locs hz1791 hP hD hS => ?_)
  obtain ⟨hr1791, hW2⟩ := hz1791
  have hP := pm_Pp List.perm_append_comm hP
  have hD := pm_Dp List.perm_append_comm hD
  refine lv_pop hx hb dL_law_1794 rfl ?_
  refine lv_goto (tgt := 2459) hx hb dL_law_1795 (by decide) ?_
  refine W.widen (k := 1009 + 2 * ii) (n := 100145 + 25 * ii) (by omega) (by omega) ?_
  exact hend _ _ _ W1 W2 _ _ _ _ _ _ hW1 hW2 hJ hP hD hS hl
set_option maxHeartbeats 4000000 in
set_option maxRecDepth 100000 in
theorem lw_c46 {p : Program} {e : Env} {s : State} {m : MethodId} {below : List Frame} {meth : Method} {c : Code} (l : Launch) {sb L : Nat} {xs : Nat → Int32} (hL : L ≤ 3072) (C0 : lw_At p s m meth c sb L xs) {g : va_G} {cI cJ cB cZ cL : ClassId} (hK : va_K g vwCl (tyT cI cJ cB cZ cL) s) {kA vA : Nat → Nat} (hE : ENV kA vA (fun q : Nat => s.heap.size ≤ q) s) {x y : Nat} {ii : Nat} (h6 : ii + 6 ≤ L) (hend : ∀ (H : Heap) (locs : List Loc) (ls : Array Slot) (XT M : va_W) (sw sn ki mw mn kp : Nat → Int32) (hXT : XTSt cI cJ cB cZ cL x sw sn ki XT) (hM : MSt cI cJ cB cZ cL y mw mn kp M) (hJ : JJ sw sn ki mw mn kp) (hP : va_P g vwCl (XT ++ M) H) (hD : va_D (fun q : Nat => s.heap.size ≤ q) (XT ++ M)) (hS : va_S (fun q : Nat => s.heap.size ≤ q) s.heap H locs) (hl : lv_has ls 4 [(0, .ref sb), (1, .ref x), (2, .ref y), (3, .int (nI ii))]), W p l e room_1 s m #[Value.ref sb] below meth c H locs (1009 + 2 * ii) (100145 + 25 * ii) (lw_Z below #[Value.ref sb] s) (F0 m 2459 ls [])) (H : Heap) (locs : List Loc) (ls : Array Slot) (XT M : va_W) (sw sn ki mw mn kp : Nat → Int32) (hXT : XTSt cI cJ cB cZ cL x sw sn ki XT) (hM : MSt cI cJ cB cZ cL y mw mn kp M) (hJ : JJ sw sn ki mw mn kp) (hP : va_P g vwCl (XT ++ M) H) (hD : va_D (fun q : Nat => s.heap.size ≤ q) (XT ++ M)) (hS : va_S (fun q : Nat => s.heap.size ≤ q) s.heap H locs) (hl : lv_has ls 4 [(0, .ref sb), (1, .ref x), (2, .ref y), (3, .int (nI ii))]) : W p l e room_1 s m #[Value.ref sb] below meth c H locs (1000 + 2 * ii) (100000 + 25 * ii) (lw_Z below #[Value.ref sb] s) (F0 m 1798 ls []) := by
  obtain ⟨hx, hb, hr, hml, hown, hts0, hX, hbl, hlocks, hgv⟩ := id C0
  have hts : ∀ w ∈ v_L_law, w.before #[Value.ref sb] s = true := fun w h => hts0 w (in_v_L_law w h)
  have hown : s.vm.findClass RL = some m.cls := hown
  have hA : ∀ q : Nat, s.heap.size ≤ q → (fun q : Nat => s.heap.size ≤ q) q := fun _ h => h
  have hbA : ¬ (fun q : Nat => s.heap.size ≤ q) sb := Nat.not_le.mpr hbl
  refine lv_aload_n hx hb dL_law_1798 rfl (lv_at hl 1 rfl) ?_
  refine lv_aload_n hx hb dL_law_1799 rfl (lv_at hl 0 rfl) ?_
  refine lv_iload_n hx hb dL_law_1800 rfl (lv_at hl 3 rfl) ?_
  refine lv_iconst (v := 1) hx hb dL_law_1801 (by decide) ?_
  refine lv_iadd hx hb dL_law_1802 ?_
  refine va_sld hx hb hX hbl hbA hS (lw_ix 1 h6 hL (by decide)) dL_law_1803 ?_
  refine lv_topi (nm_r (e' := xs (nI ii + 1).toNatClampNeg) rfl ?_)
  refine lv_aload_n hx hb dL_law_1804 rfl (lv_at hl 0 rfl) ?_
  refine lv_iload_n hx hb dL_law_1805 rfl (lv_at hl 3 rfl) ?_
  refine lv_iconst (v := 2) hx hb dL_law_1806 (by decide) ?_
  refine lv_iadd hx hb dL_law_1807 ?_
  refine va_sld hx hb hX hbl hbA hS (lw_ix 2 h6 hL (by decide)) dL_law_1808 ?_
  refine lv_topi (nm_r (e' := xs (nI ii + 2).toNatClampNeg) rfl ?_)
  refine lc_i (X := XT) (Rr := M) (va_runV (As := [.int (xs (nI ii + 1).toNatClampNeg), .int (xs (nI ii + 2).toNatClampNeg)]) (rest := []) ⟨hx, hb, hml, hown, hts⟩ (lift_i (fun im X hX => cx_X11_fits l g cI cJ cB cZ cL kA vA x im X H.size hX (xs (nI ii + 1).toNatClampNeg) (xs (nI ii + 2).toNatClampNeg)) hXT) (cwV 2 hts (goodIn_app (g_4 (List.mem_cons_of_mem _ (List.mem_append_left _ (List.mem_of_getElem? (i := 278) rfl))) (List.mem_cons_of_mem _ (List.mem_append_left _ (List.mem_of_getElem? (i := 279) rfl))) (List.mem_cons_of_mem _ (List.mem_append_left _ (List.mem_of_getElem? (i := 280) rfl))) (List.mem_cons_of_mem _ (List.mem_append_left _ (List.mem_of_getElem? (i := 3) rfl))) (by decide +kernel)) (goodIn_sub ml_v_X11_fits good_v_X11_fits)) rfl rfl rfl (by decide +kernel) ⟨Nat.le_of_ble_eq_true rfl, Nat.le_of_ble_eq_true rfl⟩) (lc_pre (ci := 10) (q := (RX11, TX11, 11)) hK hE hS hA hP hD rfl (xt_mem hXT)) rfl rfl hl.1 rfl (lv_room (Nat.le_of_ble_eq_true rfl)) dL_law_1809 ⟨(by show (1000 + 2 * ii) + 0 ≤ 600000; omega), (by show (100000 + 25 * ii) + 0 ≤ 7302250; omega)⟩) hS hA hP hD (fun r1809 W1 H locs hz1809 hP hD hS => ?_)
  obtain ⟨hr1809, hW1⟩ := hz1809
  refine lv_pop hx hb dL_law_1812 rfl ?_
  refine lv_aload_n hx hb dL_law_1813 rfl (lv_at hl 2 rfl) ?_
  refine lv_aload_n hx hb dL_law_1814 rfl (lv_at hl 0 rfl) ?_
  refine lv_iload_n hx hb dL_law_1815 rfl (lv_at hl 3 rfl) ?_
  refine lv_iconst (v := 1) hx hb dL_law_1816 (by decide) ?_
  refine lv_iadd hx hb dL_law_1817 ?_
  refine va_sld hx hb hX hbl hbA hS (lw_ix 1 h6 hL (by decide)) dL_law_1818 ?_
  refine lv_topi (nm_r (e' := xs (nI ii + 1).toNatClampNeg) rfl ?_)
  refine lv_aload_n hx hb dL_law_1819 rfl (lv_at hl 0 rfl) ?_
  refine lv_iload_n hx hb dL_law_1820 rfl (lv_at hl 3 rfl) ?_
  refine lv_iconst (v := 2) hx hb dL_law_1821 (by decide) ?_
  refine lv_iadd hx hb dL_law_1822 ?_
  refine va_sld hx hb hX hbl hbA hS (lw_ix 2 h6 hL (by decide)) dL_law_1823 ?_
  refine lv_topi (nm_r (e' := xs (nI ii + 2).toNatClampNeg) rfl ?_)
  have hP := pm_Pp List.perm_append_comm hP
  have hD := pm_Dp List.perm_append_comm hD
  refine lc_i (X := M) (Rr := W1) (va_runV (As := [.int (xs (nI ii + 1).toNatClampNeg), .int (xs (nI ii + 2).toNatClampNeg)]) (rest := []) ⟨hx, hb, hml, hown, hts⟩ (cm_X12_fits l g cI cJ cB cZ cL kA vA y M H.size hM (xs (nI ii + 1).toNatClampNeg) (xs (nI ii + 2).toNatClampNeg)) (cwV 2 hts (goodIn_app (g_4 (List.mem_cons_of_mem _ (List.mem_append_left _ (List.mem_of_getElem? (i := 281) rfl))) (List.mem_cons_of_mem _ (List.mem_append_left _ (List.mem_of_getElem? (i := 282) rfl))) (List.mem_cons_of_mem _ (List.mem_append_left _ (List.mem_of_getElem? (i := 283) rfl))) (List.mem_cons_of_mem _ (List.mem_append_left _ (List.mem_of_getElem? (i := 7) rfl))) (by decide +kernel)) (goodIn_sub ml_v_X12_fits good_v_X12_fits)) rfl rfl rfl (by decide +kernel) ⟨Nat.le_of_ble_eq_true rfl, Nat.le_of_ble_eq_true rfl⟩) (lc_pre (ci := 11) (q := (RX12, TX12, 56)) hK hE hS hA hP hD rfl (mt_mem hM)) rfl rfl hl.1 rfl (lv_room (Nat.le_of_ble_eq_true rfl)) dL_law_1824 ⟨(by show (1000 + 2 * ii) + 0 + 0 ≤ 600000; omega), (by show (100000 + 25 * ii) + 0 + 0 ≤ 7302250; omega)⟩) hS hA hP hD (fun r1824 W2 H locs hz1824 hP hD hS => ?_)
  obtain ⟨hr1824, hW2⟩ := hz1824
  have hP := pm_Pp List.perm_append_comm hP
  have hD := pm_Dp List.perm_append_comm hD
  refine lv_pop hx hb dL_law_1827 rfl ?_
  refine lv_goto (tgt := 2459) hx hb dL_law_1828 (by decide) ?_
  refine W.widen (k := 1009 + 2 * ii) (n := 100145 + 25 * ii) (by omega) (by omega) ?_
  exact hend _ _ _ W1 W2 _ _ _ _ _ _ hW1 hW2 hJ hP hD hS hl
set_option maxHeartbeats 4000000 in
set_option maxRecDepth 100000 in
theorem lw_c47 {p : Program} {e : Env} {s : State} {m : MethodId} {below : List Frame} {meth : Method} {c : Code} (l : Launch) {sb L : Nat} {xs : Nat → Int32} (hL : L ≤ 3072) (C0 : lw_At p s m meth c sb L xs) {g : va_G} {cI cJ cB cZ cL : ClassId} (hK : va_K g vwCl (tyT cI cJ cB cZ cL) s) {kA vA : Nat → Nat} (hE : ENV kA vA (fun q : Nat => s.heap.size ≤ q) s) {x y : Nat} {ii : Nat} (h6 : ii + 6 ≤ L) (hend : ∀ (H : Heap) (locs : List Loc) (ls : Array Slot) (XT M : va_W) (sw sn ki mw mn kp : Nat → Int32) (hXT : XTSt cI cJ cB cZ cL x sw sn ki XT) (hM : MSt cI cJ cB cZ cL y mw mn kp M) (hJ : JJ sw sn ki mw mn kp) (hP : va_P g vwCl (XT ++ M) H) (hD : va_D (fun q : Nat => s.heap.size ≤ q) (XT ++ M)) (hS : va_S (fun q : Nat => s.heap.size ≤ q) s.heap H locs) (hl : lv_has ls 4 [(0, .ref sb), (1, .ref x), (2, .ref y), (3, .int (nI ii))]), W p l e room_1 s m #[Value.ref sb] below meth c H locs (1009 + 2 * ii) (100145 + 25 * ii) (lw_Z below #[Value.ref sb] s) (F0 m 2459 ls [])) (H : Heap) (locs : List Loc) (ls : Array Slot) (XT M : va_W) (sw sn ki mw mn kp : Nat → Int32) (hXT : XTSt cI cJ cB cZ cL x sw sn ki XT) (hM : MSt cI cJ cB cZ cL y mw mn kp M) (hJ : JJ sw sn ki mw mn kp) (hP : va_P g vwCl (XT ++ M) H) (hD : va_D (fun q : Nat => s.heap.size ≤ q) (XT ++ M)) (hS : va_S (fun q : Nat => s.heap.size ≤ q) s.heap H locs) (hl : lv_has ls 4 [(0, .ref sb), (1, .ref x), (2, .ref y), (3, .int (nI ii))]) : W p l e room_1 s m #[Value.ref sb] below meth c H locs (1000 + 2 * ii) (100000 + 25 * ii) (lw_Z below #[Value.ref sb] s) (F0 m 1831 ls []) := by
  obtain ⟨hx, hb, hr, hml, hown, hts0, hX, hbl, hlocks, hgv⟩ := id C0
  have hts : ∀ w ∈ v_L_law, w.before #[Value.ref sb] s = true := fun w h => hts0 w (in_v_L_law w h)
  have hown : s.vm.findClass RL = some m.cls := hown
  have hA : ∀ q : Nat, s.heap.size ≤ q → (fun q : Nat => s.heap.size ≤ q) q := fun _ h => h
  have hbA : ¬ (fun q : Nat => s.heap.size ≤ q) sb := Nat.not_le.mpr hbl
  refine lv_aload_n hx hb dL_law_1831 rfl (lv_at hl 1 rfl) ?_
  refine lv_aload_n hx hb dL_law_1832 rfl (lv_at hl 0 rfl) ?_
  refine lv_iload_n hx hb dL_law_1833 rfl (lv_at hl 3 rfl) ?_
  refine lv_iconst (v := 1) hx hb dL_law_1834 (by decide) ?_
  refine lv_iadd hx hb dL_law_1835 ?_
  refine va_sld hx hb hX hbl hbA hS (lw_ix 1 h6 hL (by decide)) dL_law_1836 ?_
  refine lv_topi (nm_r (e' := xs (nI ii + 1).toNatClampNeg) rfl ?_)
  refine lv_aload_n hx hb dL_law_1837 rfl (lv_at hl 0 rfl) ?_
  refine lv_iload_n hx hb dL_law_1838 rfl (lv_at hl 3 rfl) ?_
  refine lv_iconst (v := 2) hx hb dL_law_1839 (by decide) ?_
  refine lv_iadd hx hb dL_law_1840 ?_
  refine va_sld hx hb hX hbl hbA hS (lw_ix 2 h6 hL (by decide)) dL_law_1841 ?_
  refine lv_topi (nm_r (e' := xs (nI ii + 2).toNatClampNeg) rfl ?_)
  refine lv_aload_n hx hb dL_law_1842 rfl (lv_at hl 0 rfl) ?_
  refine lv_iload_n hx hb dL_law_1843 rfl (lv_at hl 3 rfl) ?_
  refine lv_iconst (v := 3) hx hb dL_law_1844 (by decide) ?_
  refine lv_iadd hx hb dL_law_1845 ?_
  refine va_sld hx hb hX hbl hbA hS (lw_ix 3 h6 hL (by decide)) dL_law_1846 ?_
  refine lv_topi (nm_r (e' := xs (nI ii + 3).toNatClampNeg) rfl ?_)
  refine lc_l (X := XT) (Rr := M) (va_runV (As := [.int (xs (nI ii + 1).toNatClampNeg), .int (xs (nI ii + 2).toNatClampNeg), .int (xs (nI ii + 3).toNatClampNeg)]) (rest := []) ⟨hx, hb, hml, hown, hts⟩ (lift_l (fun im X hX => cx_X11_which l g cI cJ cB cZ cL kA vA x im X H.size hX (xs (nI ii + 1).toNatClampNeg) (xs (nI ii + 2).toNatClampNeg) (xs (nI ii + 3).toNatClampNeg)) hXT) (cwV 3 hts (goodIn_app (g_4 (List.mem_cons_of_mem _ (List.mem_append_left _ (List.mem_of_getElem? (i := 284) rfl))) (List.mem_cons_of_mem _ (List.mem_append_left _ (List.mem_of_getElem? (i := 285) rfl))) (List.mem_cons_of_mem _ (List.mem_append_left _ (List.mem_of_getElem? (i := 286) rfl))) (List.mem_cons_of_mem _ (List.mem_append_left _ (List.mem_of_getElem? (i := 3) rfl))) (by decide +kernel)) (goodIn_sub ml_v_X11_which good_v_X11_which)) rfl rfl rfl (by decide +kernel) ⟨Nat.le_of_ble_eq_true rfl, Nat.le_of_ble_eq_true rfl⟩) (lc_pre (ci := 10) (q := (RX11, TX11, 11)) hK hE hS hA hP hD rfl (xt_mem hXT)) rfl rfl hl.1 rfl (lv_room (Nat.le_of_ble_eq_true rfl)) dL_law_1847 ⟨(by show (1000 + 2 * ii) + 0 ≤ 600000; omega), (by show (100000 + 25 * ii) + 0 ≤ 7302250; omega)⟩) hS hA hP hD (fun r1847 W1 H locs hz1847 hP hD hS => ?_)
  obtain ⟨hr1847, hW1⟩ := hz1847
  refine lv_pop2_2 hx hb dL_law_1850 rfl ?_
  refine lv_aload_n hx hb dL_law_1851 rfl (lv_at hl 2 rfl) ?_
  refine lv_aload_n hx hb dL_law_1852 rfl (lv_at hl 0 rfl) ?_
  refine lv_iload_n hx hb dL_law_1853 rfl (lv_at hl 3 rfl) ?_
  refine lv_iconst (v := 1) hx hb dL_law_1854 (by decide) ?_
  refine lv_iadd hx hb dL_law_1855 ?_
  refine va_sld hx hb hX hbl hbA hS (lw_ix 1 h6 hL (by decide)) dL_law_1856 ?_
  refine lv_topi (nm_r (e' := xs (nI ii + 1).toNatClampNeg) rfl ?_)
  refine lv_aload_n hx hb dL_law_1857 rfl (lv_at hl 0 rfl) ?_
  refine lv_iload_n hx hb dL_law_1858 rfl (lv_at hl 3 rfl) ?_
  refine lv_iconst (v := 2) hx hb dL_law_1859 (by decide) ?_
  refine lv_iadd hx hb dL_law_1860 ?_
  refine va_sld hx hb hX hbl hbA hS (lw_ix 2 h6 hL (by decide)) dL_law_1861 ?_
  refine lv_topi (nm_r (e' := xs (nI ii + 2).toNatClampNeg) rfl ?_)
  refine lv_aload_n hx hb dL_law_1862 rfl (lv_at hl 0 rfl) ?_
  refine lv_iload_n hx hb dL_law_1863 rfl (lv_at hl 3 rfl) ?_
  refine lv_iconst (v := 3) hx hb dL_law_1864 (by decide) ?_
  refine lv_iadd hx hb dL_law_1865 ?_
  refine va_sld hx hb hX hbl hbA hS (lw_ix 3 h6 hL (by decide)) dL_law_1866 ?_
  refine lv_topi (nm_r (e' := xs (nI ii + 3).toNatClampNeg) rfl ?_)
  have hP := pm_Pp List.perm_append_comm hP
  have hD := pm_Dp List.perm_append_comm hD
  refine lc_l (X := M) (Rr := W1) (va_runV (As := [.int (xs (nI ii + 1).toNatClampNeg), .int (xs (nI ii + 2).toNatClampNeg), .int (xs (nI ii + 3).toNatClampNeg)]) (rest := []) ⟨hx, hb, hml, hown, hts⟩ (cm_X12_which l g cI cJ cB cZ cL kA vA y M H.size hM (xs (nI ii + 1).toNatClampNeg) (xs (nI ii + 2).toNatClampNeg) (xs (nI ii + 3).toNatClampNeg)) (cwV 3 hts (goodIn_app (g_4 (List.mem_cons_of_mem _ (List.mem_append_left _ (List.mem_of_getElem? (i := 287) rfl))) (List.mem_cons_of_mem _ (List.mem_append_left _ (List.mem_of_getElem? (i := 288) rfl))) (List.mem_cons_of_mem _ (List.mem_append_left _ (List.mem_of_getElem? (i := 289) rfl))) (List.mem_cons_of_mem _ (List.mem_append_left _ (List.mem_of_getElem? (i := 7) rfl))) (by decide +kernel)) (goodIn_sub ml_v_X12_which good_v_X12_which)) rfl rfl rfl (by decide +kernel) ⟨Nat.le_of_ble_eq_true rfl, Nat.le_of_ble_eq_true rfl⟩) (lc_pre (ci := 11) (q := (RX12, TX12, 56)) hK hE hS hA hP hD rfl (mt_mem hM)) rfl rfl hl.1 rfl (lv_room (Nat.le_of_ble_eq_true rfl)) dL_law_1867 ⟨(by show (1000 + 2 * ii) + 0 + 0 ≤ 600000; omega), (by show (100000 + 25 * ii) + 0 + 0 ≤ 7302250; omega)⟩) hS hA hP hD (fun r1867 W2 H locs hz1867 hP hD hS => ?_)
  obtain ⟨hr1867, hW2⟩ := hz1867
  have hP := pm_Pp List.perm_append_comm hP
  have hD := pm_Dp List.perm_append_comm hD
  refine lv_pop2_2 hx hb dL_law_1870 rfl ?_
  refine lv_goto (tgt := 2459) hx hb dL_law_1871 (by decide) ?_
  refine W.widen (k := 1009 + 2 * ii) (n := 100145 + 25 * ii) (by omega) (by omega) ?_
  exact hend _ _ _ W1 W2 _ _ _ _ _ _ hW1 hW2 hJ hP hD hS hl
set_option maxHeartbeats 4000000 in
set_option maxRecDepth 100000 in
theorem lw_c48 {p : Program} {e : Env} {s : State} {m : MethodId} {below : List Frame} {meth : Method} {c : Code} (l : Launch) {sb L : Nat} {xs : Nat → Int32} (hL : L ≤ 3072) (C0 : lw_At p s m meth c sb L xs) {g : va_G} {cI cJ cB cZ cL : ClassId} (hK : va_K g vwCl (tyT cI cJ cB cZ cL) s) {kA vA : Nat → Nat} (hE : ENV kA vA (fun q : Nat => s.heap.size ≤ q) s) {x y : Nat} {ii : Nat} (h6 : ii + 6 ≤ L) (hend : ∀ (H : Heap) (locs : List Loc) (ls : Array Slot) (XT M : va_W) (sw sn ki mw mn kp : Nat → Int32) (hXT : XTSt cI cJ cB cZ cL x sw sn ki XT) (hM : MSt cI cJ cB cZ cL y mw mn kp M) (hJ : JJ sw sn ki mw mn kp) (hP : va_P g vwCl (XT ++ M) H) (hD : va_D (fun q : Nat => s.heap.size ≤ q) (XT ++ M)) (hS : va_S (fun q : Nat => s.heap.size ≤ q) s.heap H locs) (hl : lv_has ls 4 [(0, .ref sb), (1, .ref x), (2, .ref y), (3, .int (nI ii))]), W p l e room_1 s m #[Value.ref sb] below meth c H locs (1009 + 2 * ii) (100145 + 25 * ii) (lw_Z below #[Value.ref sb] s) (F0 m 2459 ls [])) (H : Heap) (locs : List Loc) (ls : Array Slot) (XT M : va_W) (sw sn ki mw mn kp : Nat → Int32) (hXT : XTSt cI cJ cB cZ cL x sw sn ki XT) (hM : MSt cI cJ cB cZ cL y mw mn kp M) (hJ : JJ sw sn ki mw mn kp) (hP : va_P g vwCl (XT ++ M) H) (hD : va_D (fun q : Nat => s.heap.size ≤ q) (XT ++ M)) (hS : va_S (fun q : Nat => s.heap.size ≤ q) s.heap H locs) (hl : lv_has ls 4 [(0, .ref sb), (1, .ref x), (2, .ref y), (3, .int (nI ii))]) : W p l e room_1 s m #[Value.ref sb] below meth c H locs (1000 + 2 * ii) (100000 + 25 * ii) (lw_Z below #[Value.ref sb] s) (F0 m 1874 ls []) := by
  obtain ⟨hx, hb, hr, hml, hown, hts0, hX, hbl, hlocks, hgv⟩ := id C0
  have hts : ∀ w ∈ v_L_law, w.before #[Value.ref sb] s = true := fun w h => hts0 w (in_v_L_law w h)
  have hown : s.vm.findClass RL = some m.cls := hown
  have hA : ∀ q : Nat, s.heap.size ≤ q → (fun q : Nat => s.heap.size ≤ q) q := fun _ h => h
  have hbA : ¬ (fun q : Nat => s.heap.size ≤ q) sb := Nat.not_le.mpr hbl
  refine lv_aload_n hx hb dL_law_1874 rfl (lv_at hl 1 rfl) ?_
  refine lv_aload_n hx hb dL_law_1875 rfl (lv_at hl 0 rfl) ?_
  refine lv_iload_n hx hb dL_law_1876 rfl (lv_at hl 3 rfl) ?_
  refine lv_iconst (v := 1) hx hb dL_law_1877 (by decide) ?_
  refine lv_iadd hx hb dL_law_1878 ?_
  refine va_sld hx hb hX hbl hbA hS (lw_ix 1 h6 hL (by decide)) dL_law_1879 ?_
  refine lv_topi (nm_r (e' := xs (nI ii + 1).toNatClampNeg) rfl ?_)
  refine lv_aload_n hx hb dL_law_1880 rfl (lv_at hl 0 rfl) ?_
  refine lv_iload_n hx hb dL_law_1881 rfl (lv_at hl 3 rfl) ?_
  refine lv_iconst (v := 2) hx hb dL_law_1882 (by decide) ?_
  refine lv_iadd hx hb dL_law_1883 ?_
  refine va_sld hx hb hX hbl hbA hS (lw_ix 2 h6 hL (by decide)) dL_law_1884 ?_
  refine lv_topi (nm_r (e' := xs (nI ii + 2).toNatClampNeg) rfl ?_)
  refine lc_i (X := XT) (Rr := M) (va_runV (As := [.int (xs (nI ii + 1).toNatClampNeg), .int (xs (nI ii + 2).toNatClampNeg)]) (rest := []) ⟨hx, hb, hml, hown, hts⟩ (lift_i (fun im X hX => cx_X11_begun l g cI cJ cB cZ cL kA vA x im X H.size hX (xs (nI ii + 1).toNatClampNeg) (xs (nI ii + 2).toNatClampNeg)) hXT) (cwV 2 hts (goodIn_app (g_4 (List.mem_cons_of_mem _ (List.mem_append_left _ (List.mem_of_getElem? (i := 290) rfl))) (List.mem_cons_of_mem _ (List.mem_append_left _ (List.mem_of_getElem? (i := 291) rfl))) (List.mem_cons_of_mem _ (List.mem_append_left _ (List.mem_of_getElem? (i := 292) rfl))) (List.mem_cons_of_mem _ (List.mem_append_left _ (List.mem_of_getElem? (i := 3) rfl))) (by decide +kernel)) (goodIn_sub ml_v_X11_begun good_v_X11_begun)) rfl rfl rfl (by decide +kernel) ⟨Nat.le_of_ble_eq_true rfl, Nat.le_of_ble_eq_true rfl⟩) (lc_pre (ci := 10) (q := (RX11, TX11, 11)) hK hE hS hA hP hD rfl (xt_mem hXT)) rfl rfl hl.1 rfl (lv_room (Nat.le_of_ble_eq_true rfl)) dL_law_1885 ⟨(by show (1000 + 2 * ii) + 0 ≤ 600000; omega), (by show (100000 + 25 * ii) + 0 ≤ 7302250; omega)⟩) hS hA hP hD (fun r1885 W1 H locs hz1885 hP hD hS => ?_)
  obtain ⟨hr1885, hW1⟩ := hz1885
  refine lv_pop hx hb dL_law_1888 rfl ?_
  refine lv_aload_n hx hb dL_law_1889 rfl (lv_at hl 2 rfl) ?_
  refine lv_aload_n hx hb dL_law_1890 rfl (lv_at hl 0 rfl) ?_
  refine lv_iload_n hx hb dL_law_1891 rfl (lv_at hl 3 rfl) ?_
  refine lv_iconst (v := 1) hx hb dL_law_1892 (by decide) ?_
  refine lv_iadd hx hb dL_law_1893 ?_
  refine va_sld hx hb hX hbl hbA hS (lw_ix 1 h6 hL (by decide)) dL_law_1894 ?_
  refine lv_topi (nm_r (e' := xs (nI ii + 1).toNatClampNeg) rfl ?_)
  refine lv_aload_n hx hb dL_law_1895 rfl (lv_at hl 0 rfl) ?_
  refine lv_iload_n hx hb dL_law_1896 rfl (lv_at hl 3 rfl) ?_
  refine lv_iconst (v := 2) hx hb dL_law_1897 (by decide) ?_
  refine lv_iadd hx hb dL_law_1898 ?_
  refine va_sld hx hb hX hbl hbA hS (lw_ix 2 h6 hL (by decide)) dL_law_1899 ?_
  refine lv_topi (nm_r (e' := xs (nI ii + 2).toNatClampNeg) rfl ?_)
  have hP := pm_Pp List.perm_append_comm hP
  have hD := pm_Dp List.perm_append_comm hD
  refine lc_i (X := M) (Rr := W1) (va_runV (As := [.int (xs (nI ii + 1).toNatClampNeg), .int (xs (nI ii + 2).toNatClampNeg)]) (rest := []) ⟨hx, hb, hml, hown, hts⟩ (cm_X12_begun l g cI cJ cB cZ cL kA vA y M H.size hM (xs (nI ii + 1).toNatClampNeg) (xs (nI ii + 2).toNatClampNeg)) (cwV 2 hts (goodIn_app (g_4 (List.mem_cons_of_mem _ (List.mem_append_left _ (List.mem_of_getElem? (i := 293) rfl))) (List.mem_cons_of_mem _ (List.mem_append_left _ (List.mem_of_getElem? (i := 294) rfl))) (List.mem_cons_of_mem _ (List.mem_append_left _ (List.mem_of_getElem? (i := 295) rfl))) (List.mem_cons_of_mem _ (List.mem_append_left _ (List.mem_of_getElem? (i := 7) rfl))) (by decide +kernel)) (goodIn_sub ml_v_X12_begun good_v_X12_begun)) rfl rfl rfl (by decide +kernel) ⟨Nat.le_of_ble_eq_true rfl, Nat.le_of_ble_eq_true rfl⟩) (lc_pre (ci := 11) (q := (RX12, TX12, 56)) hK hE hS hA hP hD rfl (mt_mem hM)) rfl rfl hl.1 rfl (lv_room (Nat.le_of_ble_eq_true rfl)) dL_law_1900 ⟨(by show (1000 + 2 * ii) + 0 + 0 ≤ 600000; omega), (by show (100000 + 25 * ii) + 0 + 0 ≤ 7302250; omega)⟩) hS hA hP hD (fun r1900 W2 H locs hz1900 hP hD hS => ?_)
  obtain ⟨hr1900, hW2⟩ := hz1900
  have hP := pm_Pp List.perm_append_comm hP
  have hD := pm_Dp List.perm_append_comm hD
  refine lv_pop hx hb dL_law_1903 rfl ?_
  refine lv_goto (tgt := 2459) hx hb dL_law_1904 (by decide) ?_
  refine W.widen (k := 1009 + 2 * ii) (n := 100145 + 25 * ii) (by omega) (by omega) ?_
  exact hend _ _ _ W1 W2 _ _ _ _ _ _ hW1 hW2 hJ hP hD hS hl
set_option maxHeartbeats 4000000 in
set_option maxRecDepth 100000 in
theorem lw_c49 {p : Program} {e : Env} {s : State} {m : MethodId} {below : List Frame} {meth : Method} {c : Code} (l : Launch) {sb L : Nat} {xs : Nat → Int32} (hL : L ≤ 3072) (C0 : lw_At p s m meth c sb L xs) {g : va_G} {cI cJ cB cZ cL : ClassId} (hK : va_K g vwCl (tyT cI cJ cB cZ cL) s) {kA vA : Nat → Nat} (hE : ENV kA vA (fun q : Nat => s.heap.size ≤ q) s) {x y : Nat} {ii : Nat} (h6 : ii + 6 ≤ L) (hend : ∀ (H : Heap) (locs : List Loc) (ls : Array Slot) (XT M : va_W) (sw sn ki mw mn kp : Nat → Int32) (hXT : XTSt cI cJ cB cZ cL x sw sn ki XT) (hM : MSt cI cJ cB cZ cL y mw mn kp M) (hJ : JJ sw sn ki mw mn kp) (hP : va_P g vwCl (XT ++ M) H) (hD : va_D (fun q : Nat => s.heap.size ≤ q) (XT ++ M)) (hS : va_S (fun q : Nat => s.heap.size ≤ q) s.heap H locs) (hl : lv_has ls 4 [(0, .ref sb), (1, .ref x), (2, .ref y), (3, .int (nI ii))]), W p l e room_1 s m #[Value.ref sb] below meth c H locs (1009 + 2 * ii) (100145 + 25 * ii) (lw_Z below #[Value.ref sb] s) (F0 m 2459 ls [])) (H : Heap) (locs : List Loc) (ls : Array Slot) (XT M : va_W) (sw sn ki mw mn kp : Nat → Int32) (hXT : XTSt cI cJ cB cZ cL x sw sn ki XT) (hM : MSt cI cJ cB cZ cL y mw mn kp M) (hJ : JJ sw sn ki mw mn kp) (hP : va_P g vwCl (XT ++ M) H) (hD : va_D (fun q : Nat => s.heap.size ≤ q) (XT ++ M)) (hS : va_S (fun q : Nat => s.heap.size ≤ q) s.heap H locs) (hl : lv_has ls 4 [(0, .ref sb), (1, .ref x), (2, .ref y), (3, .int (nI ii))]) : W p l e room_1 s m #[Value.ref sb] below meth c H locs (1000 + 2 * ii) (100000 + 25 * ii) (lw_Z below #[Value.ref sb] s) (F0 m 1907 ls []) := by
  obtain ⟨hx, hb, hr, hml, hown, hts0, hX, hbl, hlocks, hgv⟩ := id C0
  have hts : ∀ w ∈ v_L_law, w.before #[Value.ref sb] s = true := fun w h => hts0 w (in_v_L_law w h)
  have hown : s.vm.findClass RL = some m.cls := hown
  have hA : ∀ q : Nat, s.heap.size ≤ q → (fun q : Nat => s.heap.size ≤ q) q := fun _ h => h
  have hbA : ¬ (fun q : Nat => s.heap.size ≤ q) sb := Nat.not_le.mpr hbl
  refine lv_aload_n hx hb dL_law_1907 rfl (lv_at hl 1 rfl) ?_
  refine lv_aload_n hx hb dL_law_1908 rfl (lv_at hl 0 rfl) ?_
  refine lv_iload_n hx hb dL_law_1909 rfl (lv_at hl 3 rfl) ?_
  refine lv_iconst (v := 1) hx hb dL_law_1910 (by decide) ?_
  refine lv_iadd hx hb dL_law_1911 ?_
  refine va_sld hx hb hX hbl hbA hS (lw_ix 1 h6 hL (by decide)) dL_law_1912 ?_
  refine lv_topi (nm_r (e' := xs (nI ii + 1).toNatClampNeg) rfl ?_)
  refine lv_aload_n hx hb dL_law_1913 rfl (lv_at hl 0 rfl) ?_
  refine lv_iload_n hx hb dL_law_1914 rfl (lv_at hl 3 rfl) ?_
  refine lv_iconst (v := 2) hx hb dL_law_1915 (by decide) ?_
  refine lv_iadd hx hb dL_law_1916 ?_
  refine va_sld hx hb hX hbl hbA hS (lw_ix 2 h6 hL (by decide)) dL_law_1917 ?_
  refine lv_topi (nm_r (e' := xs (nI ii + 2).toNatClampNeg) rfl ?_)
  refine lc_i (X := XT) (Rr := M) (va_runV (As := [.int (xs (nI ii + 1).toNatClampNeg), .int (xs (nI ii + 2).toNatClampNeg)]) (rest := []) ⟨hx, hb, hml, hown, hts⟩ (lift_i (fun im X hX => cx_X11_odd l g cI cJ cB cZ cL kA vA x im X H.size hX (xs (nI ii + 1).toNatClampNeg) (xs (nI ii + 2).toNatClampNeg)) hXT) (cwV 2 hts (goodIn_app (g_4 (List.mem_cons_of_mem _ (List.mem_append_left _ (List.mem_of_getElem? (i := 296) rfl))) (List.mem_cons_of_mem _ (List.mem_append_left _ (List.mem_of_getElem? (i := 297) rfl))) (List.mem_cons_of_mem _ (List.mem_append_left _ (List.mem_of_getElem? (i := 298) rfl))) (List.mem_cons_of_mem _ (List.mem_append_left _ (List.mem_of_getElem? (i := 3) rfl))) (by decide +kernel)) (goodIn_sub ml_v_X11_odd good_v_X11_odd)) rfl rfl rfl (by decide +kernel) ⟨Nat.le_of_ble_eq_true rfl, Nat.le_of_ble_eq_true rfl⟩) (lc_pre (ci := 10) (q := (RX11, TX11, 11)) hK hE hS hA hP hD rfl (xt_mem hXT)) rfl rfl hl.1 rfl (lv_room (Nat.le_of_ble_eq_true rfl)) dL_law_1918 ⟨(by show (1000 + 2 * ii) + 0 ≤ 600000; omega), (by show (100000 + 25 * ii) + 0 ≤ 7302250; omega)⟩) hS hA hP hD (fun r1918 W1 H locs hz1918 hP hD hS => ?_)
  obtain ⟨hr1918, hW1⟩ := hz1918
  refine lv_pop hx hb dL_law_1921 rfl ?_
  refine lv_aload_n hx hb dL_law_1922 rfl (lv_at hl 2 rfl) ?_
  refine lv_aload_n hx hb dL_law_1923 rfl (lv_at hl 0 rfl) ?_
  refine lv_iload_n hx hb dL_law_1924 rfl (lv_at hl 3 rfl) ?_
  refine lv_iconst (v := 1) hx hb dL_law_1925 (by decide) ?_
  refine lv_iadd hx hb dL_law_1926 ?_
  refine va_sld hx hb hX hbl hbA hS (lw_ix 1 h6 hL (by decide)) dL_law_1927 ?_
  refine lv_topi (nm_r (e' := xs (nI ii + 1).toNatClampNeg) rfl ?_)
  refine lv_aload_n hx hb dL_law_1928 rfl (lv_at hl 0 rfl) ?_
  refine lv_iload_n hx hb dL_law_1929 rfl (lv_at hl 3 rfl) ?_
  refine lv_iconst (v := 2) hx hb dL_law_1930 (by decide) ?_
  refine lv_iadd hx hb dL_law_1931 ?_
  refine va_sld hx hb hX hbl hbA hS (lw_ix 2 h6 hL (by decide)) dL_law_1932 ?_
  refine lv_topi (nm_r (e' := xs (nI ii + 2).toNatClampNeg) rfl ?_)
  have hP := pm_Pp List.perm_append_comm hP
  have hD := pm_Dp List.perm_append_comm hD
  refine lc_i (X := M) (Rr := W1) (va_runV (As := [.int (xs (nI ii + 1).toNatClampNeg), .int (xs (nI ii + 2).toNatClampNeg)]) (rest := []) ⟨hx, hb, hml, hown, hts⟩ (cm_X12_odd l g cI cJ cB cZ cL kA vA y M H.size hM (xs (nI ii + 1).toNatClampNeg) (xs (nI ii + 2).toNatClampNeg)) (cwV 2 hts (goodIn_app (g_4 (List.mem_cons_of_mem _ (List.mem_append_left _ (List.mem_of_getElem? (i := 299) rfl))) (List.mem_cons_of_mem _ (List.mem_append_left _ (List.mem_of_getElem? (i := 300) rfl))) (List.mem_cons_of_mem _ (List.mem_append_left _ (List.mem_of_getElem? (i := 301) rfl))) (List.mem_cons_of_mem _ (List.mem_append_left _ (List.mem_of_getElem? (i := 7) rfl))) (by decide +kernel)) (goodIn_sub ml_v_X12_odd good_v_X12_odd)) rfl rfl rfl (by decide +kernel) ⟨Nat.le_of_ble_eq_true rfl, Nat.le_of_ble_eq_true rfl⟩) (lc_pre (ci := 11) (q := (RX12, TX12, 56)) hK hE hS hA hP hD rfl (mt_mem hM)) rfl rfl hl.1 rfl (lv_room (Nat.le_of_ble_eq_true rfl)) dL_law_1933 ⟨(by show (1000 + 2 * ii) + 0 + 0 ≤ 600000; omega), (by show (100000 + 25 * ii) + 0 + 0 ≤ 7302250; omega)⟩) hS hA hP hD (fun r1933 W2 H locs hz1933 hP hD hS => ?_)
  obtain ⟨hr1933, hW2⟩ := hz1933
  have hP := pm_Pp List.perm_append_comm hP
  have hD := pm_Dp List.perm_append_comm hD
  refine lv_pop hx hb dL_law_1936 rfl ?_
  refine lv_goto (tgt := 2459) hx hb dL_law_1937 (by decide) ?_
  refine W.widen (k := 1009 + 2 * ii) (n := 100145 + 25 * ii) (by omega) (by omega) ?_
  exact hend _ _ _ W1 W2 _ _ _ _ _ _ hW1 hW2 hJ hP hD hS hl
set_option maxHeartbeats 4000000 in
set_option maxRecDepth 100000 in
theorem lw_c50 {p : Program} {e : Env} {s : State} {m : MethodId} {below : List Frame} {meth : Method} {c : Code} (l : Launch) {sb L : Nat} {xs : Nat → Int32} (hL : L ≤ 3072) (C0 : lw_At p s m meth c sb L xs) {g : va_G} {cI cJ cB cZ cL : ClassId} (hK : va_K g vwCl (tyT cI cJ cB cZ cL) s) {kA vA : Nat → Nat} (hE : ENV kA vA (fun q : Nat => s.heap.size ≤ q) s) {x y : Nat} {ii : Nat} (h6 : ii + 6 ≤ L) (hend : ∀ (H : Heap) (locs : List Loc) (ls : Array Slot) (XT M : va_W) (sw sn ki mw mn kp : Nat → Int32) (hXT : XTSt cI cJ cB cZ cL x sw sn ki XT) (hM : MSt cI cJ cB cZ cL y mw mn kp M) (hJ : JJ sw sn ki mw mn kp) (hP : va_P g vwCl (XT ++ M) H) (hD : va_D (fun q : Nat => s.heap.size ≤ q) (XT ++ M)) (hS : va_S (fun q : Nat => s.heap.size ≤ q) s.heap H locs) (hl : lv_has ls 4 [(0, .ref sb), (1, .ref x), (2, .ref y), (3, .int (nI ii))]), W p l e room_1 s m #[Value.ref sb] below meth c H locs (1009 + 2 * ii) (100145 + 25 * ii) (lw_Z below #[Value.ref sb] s) (F0 m 2459 ls [])) (H : Heap) (locs : List Loc) (ls : Array Slot) (XT M : va_W) (sw sn ki mw mn kp : Nat → Int32) (hXT : XTSt cI cJ cB cZ cL x sw sn ki XT) (hM : MSt cI cJ cB cZ cL y mw mn kp M) (hJ : JJ sw sn ki mw mn kp) (hP : va_P g vwCl (XT ++ M) H) (hD : va_D (fun q : Nat => s.heap.size ≤ q) (XT ++ M)) (hS : va_S (fun q : Nat => s.heap.size ≤ q) s.heap H locs) (hl : lv_has ls 4 [(0, .ref sb), (1, .ref x), (2, .ref y), (3, .int (nI ii))]) : W p l e room_1 s m #[Value.ref sb] below meth c H locs (1000 + 2 * ii) (100000 + 25 * ii) (lw_Z below #[Value.ref sb] s) (F0 m 1940 ls []) := by
  obtain ⟨hx, hb, hr, hml, hown, hts0, hX, hbl, hlocks, hgv⟩ := id C0
  have hts : ∀ w ∈ v_L_law, w.before #[Value.ref sb] s = true := fun w h => hts0 w (in_v_L_law w h)
  have hown : s.vm.findClass RL = some m.cls := hown
  have hA : ∀ q : Nat, s.heap.size ≤ q → (fun q : Nat => s.heap.size ≤ q) q := fun _ h => h
  have hbA : ¬ (fun q : Nat => s.heap.size ≤ q) sb := Nat.not_le.mpr hbl
  refine lv_aload_n hx hb dL_law_1940 rfl (lv_at hl 1 rfl) ?_
  refine lv_aload_n hx hb dL_law_1941 rfl (lv_at hl 0 rfl) ?_
  refine lv_iload_n hx hb dL_law_1942 rfl (lv_at hl 3 rfl) ?_
  refine lv_iconst (v := 1) hx hb dL_law_1943 (by decide) ?_
  refine lv_iadd hx hb dL_law_1944 ?_
  refine va_sld hx hb hX hbl hbA hS (lw_ix 1 h6 hL (by decide)) dL_law_1945 ?_
  refine lv_topi (nm_r (e' := xs (nI ii + 1).toNatClampNeg) rfl ?_)
  refine lv_aload_n hx hb dL_law_1946 rfl (lv_at hl 0 rfl) ?_
  refine lv_iload_n hx hb dL_law_1947 rfl (lv_at hl 3 rfl) ?_
  refine lv_iconst (v := 2) hx hb dL_law_1948 (by decide) ?_
  refine lv_iadd hx hb dL_law_1949 ?_
  refine va_sld hx hb hX hbl hbA hS (lw_ix 2 h6 hL (by decide)) dL_law_1950 ?_
  refine lv_topi (nm_r (e' := xs (nI ii + 2).toNatClampNeg) rfl ?_)
  refine lc_i (X := XT) (Rr := M) (va_runV (As := [.int (xs (nI ii + 1).toNatClampNeg), .int (xs (nI ii + 2).toNatClampNeg)]) (rest := []) ⟨hx, hb, hml, hown, hts⟩ (lift_i (fun im X hX => cx_X11_life l g cI cJ cB cZ cL kA vA x im X H.size hX (xs (nI ii + 1).toNatClampNeg) (xs (nI ii + 2).toNatClampNeg)) hXT) (cwV 2 hts (goodIn_app (g_4 (List.mem_cons_of_mem _ (List.mem_append_left _ (List.mem_of_getElem? (i := 302) rfl))) (List.mem_cons_of_mem _ (List.mem_append_left _ (List.mem_of_getElem? (i := 303) rfl))) (List.mem_cons_of_mem _ (List.mem_append_left _ (List.mem_of_getElem? (i := 304) rfl))) (List.mem_cons_of_mem _ (List.mem_append_left _ (List.mem_of_getElem? (i := 3) rfl))) (by decide +kernel)) (goodIn_sub ml_v_X11_life good_v_X11_life)) rfl rfl rfl (by decide +kernel) ⟨Nat.le_of_ble_eq_true rfl, Nat.le_of_ble_eq_true rfl⟩) (lc_pre (ci := 10) (q := (RX11, TX11, 11)) hK hE hS hA hP hD rfl (xt_mem hXT)) rfl rfl hl.1 rfl (lv_room (Nat.le_of_ble_eq_true rfl)) dL_law_1951 ⟨(by show (1000 + 2 * ii) + 0 ≤ 600000; omega), (by show (100000 + 25 * ii) + 0 ≤ 7302250; omega)⟩) hS hA hP hD (fun r1951 W1 H locs hz1951 hP hD hS => ?_)
  obtain ⟨hr1951, hW1⟩ := hz1951
  refine lv_pop hx hb dL_law_1954 rfl ?_
  refine lv_aload_n hx hb dL_law_1955 rfl (lv_at hl 2 rfl) ?_
  refine lv_aload_n hx hb dL_law_1956 rfl (lv_at hl 0 rfl) ?_
  refine lv_iload_n hx hb dL_law_1957 rfl (lv_at hl 3 rfl) ?_
  refine lv_iconst (v := 1) hx hb dL_law_1958 (by decide) ?_
  refine lv_iadd hx hb dL_law_1959 ?_
  refine va_sld hx hb hX hbl hbA hS (lw_ix 1 h6 hL (by decide)) dL_law_1960 ?_
  refine lv_topi (nm_r (e' := xs (nI ii + 1).toNatClampNeg) rfl ?_)
  refine lv_aload_n hx hb dL_law_1961 rfl (lv_at hl 0 rfl) ?_
  refine lv_iload_n hx hb dL_law_1962 rfl (lv_at hl 3 rfl) ?_
  refine lv_iconst (v := 2) hx hb dL_law_1963 (by decide) ?_
  refine lv_iadd hx hb dL_law_1964 ?_
  refine va_sld hx hb hX hbl hbA hS (lw_ix 2 h6 hL (by decide)) dL_law_1965 ?_
  refine lv_topi (nm_r (e' := xs (nI ii + 2).toNatClampNeg) rfl ?_)
  have hP := pm_Pp List.perm_append_comm hP
  have hD := pm_Dp List.perm_append_comm hD
  refine lc_i (X := M) (Rr := W1) (va_runV (As := [.int (xs (nI ii + 1).toNatClampNeg), .int (xs (nI ii + 2).toNatClampNeg)]) (rest := []) ⟨hx, hb, hml, hown, hts⟩ (cm_X12_life l g cI cJ cB cZ cL kA vA y M H.size hM (xs (nI ii + 1).toNatClampNeg) (xs (nI ii + 2).toNatClampNeg)) (cwV 2 hts (goodIn_app (g_4 (List.mem_cons_of_mem _ (List.mem_append_left _ (List.mem_of_getElem? (i := 305) rfl))) (List.mem_cons_of_mem _ (List.mem_append_left _ (List.mem_of_getElem? (i := 306) rfl))) (List.mem_cons_of_mem _ (List.mem_append_left _ (List.mem_of_getElem? (i := 307) rfl))) (List.mem_cons_of_mem _ (List.mem_append_left _ (List.mem_of_getElem? (i := 7) rfl))) (by decide +kernel)) (goodIn_sub ml_v_X12_life good_v_X12_life)) rfl rfl rfl (by decide +kernel) ⟨Nat.le_of_ble_eq_true rfl, Nat.le_of_ble_eq_true rfl⟩) (lc_pre (ci := 11) (q := (RX12, TX12, 56)) hK hE hS hA hP hD rfl (mt_mem hM)) rfl rfl hl.1 rfl (lv_room (Nat.le_of_ble_eq_true rfl)) dL_law_1966 ⟨(by show (1000 + 2 * ii) + 0 + 0 ≤ 600000; omega), (by show (100000 + 25 * ii) + 0 + 0 ≤ 7302250; omega)⟩) hS hA hP hD (fun r1966 W2 H locs hz1966 hP hD hS => ?_)
  obtain ⟨hr1966, hW2⟩ := hz1966
  have hP := pm_Pp List.perm_append_comm hP
  have hD := pm_Dp List.perm_append_comm hD
  refine lv_pop hx hb dL_law_1969 rfl ?_
  refine lv_goto (tgt := 2459) hx hb dL_law_1970 (by decide) ?_
  refine W.widen (k := 1009 + 2 * ii) (n := 100145 + 25 * ii) (by omega) (by omega) ?_
  exact hend _ _ _ W1 W2 _ _ _ _ _ _ hW1 hW2 hJ hP hD hS hl
set_option maxHeartbeats 4000000 in
set_option maxRecDepth 100000 in
theorem lw_c51 {p : Program} {e : Env} {s : State} {m : MethodId} {below : List Frame} {meth : Method} {c : Code} (l : Launch) {sb L : Nat} {xs : Nat → Int32} (hL : L ≤ 3072) (C0 : lw_At p s m meth c sb L xs) {g : va_G} {cI cJ cB cZ cL : ClassId} (hK : va_K g vwCl (tyT cI cJ cB cZ cL) s) {kA vA : Nat → Nat} (hE : ENV kA vA (fun q : Nat => s.heap.size ≤ q) s) {x y : Nat} {ii : Nat} (h6 : ii + 6 ≤ L) (hend : ∀ (H : Heap) (locs : List Loc) (ls : Array Slot) (XT M : va_W) (sw sn ki mw mn kp : Nat → Int32) (hXT : XTSt cI cJ cB cZ cL x sw sn ki XT) (hM : MSt cI cJ cB cZ cL y mw mn kp M) (hJ : JJ sw sn ki mw mn kp) (hP : va_P g vwCl (XT ++ M) H) (hD : va_D (fun q : Nat => s.heap.size ≤ q) (XT ++ M)) (hS : va_S (fun q : Nat => s.heap.size ≤ q) s.heap H locs) (hl : lv_has ls 4 [(0, .ref sb), (1, .ref x), (2, .ref y), (3, .int (nI ii))]), W p l e room_1 s m #[Value.ref sb] below meth c H locs (1009 + 2 * ii) (100145 + 25 * ii) (lw_Z below #[Value.ref sb] s) (F0 m 2459 ls [])) (H : Heap) (locs : List Loc) (ls : Array Slot) (XT M : va_W) (sw sn ki mw mn kp : Nat → Int32) (hXT : XTSt cI cJ cB cZ cL x sw sn ki XT) (hM : MSt cI cJ cB cZ cL y mw mn kp M) (hJ : JJ sw sn ki mw mn kp) (hP : va_P g vwCl (XT ++ M) H) (hD : va_D (fun q : Nat => s.heap.size ≤ q) (XT ++ M)) (hS : va_S (fun q : Nat => s.heap.size ≤ q) s.heap H locs) (hl : lv_has ls 4 [(0, .ref sb), (1, .ref x), (2, .ref y), (3, .int (nI ii))]) : W p l e room_1 s m #[Value.ref sb] below meth c H locs (1000 + 2 * ii) (100000 + 25 * ii) (lw_Z below #[Value.ref sb] s) (F0 m 1973 ls []) := by
  obtain ⟨hx, hb, hr, hml, hown, hts0, hX, hbl, hlocks, hgv⟩ := id C0
  have hts : ∀ w ∈ v_L_law, w.before #[Value.ref sb] s = true := fun w h => hts0 w (in_v_L_law w h)
  have hown : s.vm.findClass RL = some m.cls := hown
  have hA : ∀ q : Nat, s.heap.size ≤ q → (fun q : Nat => s.heap.size ≤ q) q := fun _ h => h
  have hbA : ¬ (fun q : Nat => s.heap.size ≤ q) sb := Nat.not_le.mpr hbl
  refine lv_aload_n hx hb dL_law_1973 rfl (lv_at hl 1 rfl) ?_
  refine lv_aload_n hx hb dL_law_1974 rfl (lv_at hl 0 rfl) ?_
  refine lv_iload_n hx hb dL_law_1975 rfl (lv_at hl 3 rfl) ?_
  refine lv_iconst (v := 1) hx hb dL_law_1976 (by decide) ?_
  refine lv_iadd hx hb dL_law_1977 ?_
  refine va_sld hx hb hX hbl hbA hS (lw_ix 1 h6 hL (by decide)) dL_law_1978 ?_
  refine lv_topi (nm_r (e' := xs (nI ii + 1).toNatClampNeg) rfl ?_)
  refine lv_aload_n hx hb dL_law_1979 rfl (lv_at hl 0 rfl) ?_
  refine lv_iload_n hx hb dL_law_1980 rfl (lv_at hl 3 rfl) ?_
  refine lv_iconst (v := 2) hx hb dL_law_1981 (by decide) ?_
  refine lv_iadd hx hb dL_law_1982 ?_
  refine va_sld hx hb hX hbl hbA hS (lw_ix 2 h6 hL (by decide)) dL_law_1983 ?_
  refine lv_topi (nm_r (e' := xs (nI ii + 2).toNatClampNeg) rfl ?_)
  refine lc_i (X := XT) (Rr := M) (va_runV (As := [.int (xs (nI ii + 1).toNatClampNeg), .int (xs (nI ii + 2).toNatClampNeg)]) (rest := []) ⟨hx, hb, hml, hown, hts⟩ (lift_i (fun im X hX => cx_X11_lives l g cI cJ cB cZ cL kA vA x im X H.size hX (xs (nI ii + 1).toNatClampNeg) (xs (nI ii + 2).toNatClampNeg)) hXT) (cwV 2 hts (goodIn_app (g_4 (List.mem_cons_of_mem _ (List.mem_append_left _ (List.mem_of_getElem? (i := 308) rfl))) (List.mem_cons_of_mem _ (List.mem_append_left _ (List.mem_of_getElem? (i := 309) rfl))) (List.mem_cons_of_mem _ (List.mem_append_left _ (List.mem_of_getElem? (i := 310) rfl))) (List.mem_cons_of_mem _ (List.mem_append_left _ (List.mem_of_getElem? (i := 3) rfl))) (by decide +kernel)) (goodIn_sub ml_v_X11_lives good_v_X11_lives)) rfl rfl rfl (by decide +kernel) ⟨Nat.le_of_ble_eq_true rfl, Nat.le_of_ble_eq_true rfl⟩) (lc_pre (ci := 10) (q := (RX11, TX11, 11)) hK hE hS hA hP hD rfl (xt_mem hXT)) rfl rfl hl.1 rfl (lv_room (Nat.le_of_ble_eq_true rfl)) dL_law_1984 ⟨(by show (1000 + 2 * ii) + 0 ≤ 600000; omega), (by show (100000 + 25 * ii) + 0 ≤ 7302250; omega)⟩) hS hA hP hD (fun r1984 W1 H locs hz1984 hP hD hS => ?_)
  obtain ⟨hr1984, hW1⟩ := hz1984
  refine lv_pop hx hb dL_law_1987 rfl ?_
  refine lv_aload_n hx hb dL_law_1988 rfl (lv_at hl 2 rfl) ?_
  refine lv_aload_n hx hb dL_law_1989 rfl (lv_at hl 0 rfl) ?_
  refine lv_iload_n hx hb dL_law_1990 rfl (lv_at hl 3 rfl) ?_
  refine lv_iconst (v := 1) hx hb dL_law_1991 (by decide) ?_
  refine lv_iadd hx hb dL_law_1992 ?_
  refine va_sld hx hb hX hbl hbA hS (lw_ix 1 h6 hL (by decide)) dL_law_1993 ?_
  refine lv_topi (nm_r (e' := xs (nI ii + 1).toNatClampNeg) rfl ?_)
  refine lv_aload_n hx hb dL_law_1994 rfl (lv_at hl 0 rfl) ?_
  refine lv_iload_n hx hb dL_law_1995 rfl (lv_at hl 3 rfl) ?_
  refine lv_iconst (v := 2) hx hb dL_law_1996 (by decide) ?_
  refine lv_iadd hx hb dL_law_1997 ?_
  refine va_sld hx hb hX hbl hbA hS (lw_ix 2 h6 hL (by decide)) dL_law_1998 ?_
  refine lv_topi (nm_r (e' := xs (nI ii + 2).toNatClampNeg) rfl ?_)
  have hP := pm_Pp List.perm_append_comm hP
  have hD := pm_Dp List.perm_append_comm hD
  refine lc_i (X := M) (Rr := W1) (va_runV (As := [.int (xs (nI ii + 1).toNatClampNeg), .int (xs (nI ii + 2).toNatClampNeg)]) (rest := []) ⟨hx, hb, hml, hown, hts⟩ (cm_X12_lives l g cI cJ cB cZ cL kA vA y M H.size hM (xs (nI ii + 1).toNatClampNeg) (xs (nI ii + 2).toNatClampNeg)) (cwV 2 hts (goodIn_app (g_4 (List.mem_cons_of_mem _ (List.mem_append_left _ (List.mem_of_getElem? (i := 311) rfl))) (List.mem_cons_of_mem _ (List.mem_append_left _ (List.mem_of_getElem? (i := 312) rfl))) (List.mem_cons_of_mem _ (List.mem_append_left _ (List.mem_of_getElem? (i := 313) rfl))) (List.mem_cons_of_mem _ (List.mem_append_left _ (List.mem_of_getElem? (i := 7) rfl))) (by decide +kernel)) (goodIn_sub ml_v_X12_lives good_v_X12_lives)) rfl rfl rfl (by decide +kernel) ⟨Nat.le_of_ble_eq_true rfl, Nat.le_of_ble_eq_true rfl⟩) (lc_pre (ci := 11) (q := (RX12, TX12, 56)) hK hE hS hA hP hD rfl (mt_mem hM)) rfl rfl hl.1 rfl (lv_room (Nat.le_of_ble_eq_true rfl)) dL_law_1999 ⟨(by show (1000 + 2 * ii) + 0 + 0 ≤ 600000; omega), (by show (100000 + 25 * ii) + 0 + 0 ≤ 7302250; omega)⟩) hS hA hP hD (fun r1999 W2 H locs hz1999 hP hD hS => ?_)
  obtain ⟨hr1999, hW2⟩ := hz1999
  have hP := pm_Pp List.perm_append_comm hP
  have hD := pm_Dp List.perm_append_comm hD
  refine lv_pop hx hb dL_law_2002 rfl ?_
  refine lv_goto (tgt := 2459) hx hb dL_law_2003 (by decide) ?_
  refine W.widen (k := 1009 + 2 * ii) (n := 100145 + 25 * ii) (by omega) (by omega) ?_
  exact hend _ _ _ W1 W2 _ _ _ _ _ _ hW1 hW2 hJ hP hD hS hl
