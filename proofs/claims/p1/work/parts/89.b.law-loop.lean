theorem law_short {L : Nat} (h : L < 6) : Int32.ofNat L - 6 < 0 := by
  match L, h with
  | 0, _ => decide
  | 1, _ => decide
  | 2, _ => decide
  | 3, _ => decide
  | 4, _ => decide
  | 5, _ => decide
  | n + 6, h => omega
set_option maxHeartbeats 4000000 in
set_option maxRecDepth 100000 in
theorem law_loop {p : Program} {e : Env} {s : State} {m : MethodId} {below : List Frame} {meth : Method} {c : Code} (l : Launch) {sb L : Nat} {xs : Nat → Int32} (hL : L ≤ 6) (C0 : lw_At p s m meth c sb L xs) {g : va_G} {cI cJ cB cZ cL : ClassId} (hK : va_K g vwCl (tyT cI cJ cB cZ cL) s) (hNX : nX lwNest s) {x y : Nat} {b a : Nat → Nat} {fz fw : Nat → Int32} (hS_fz : ∀ k, k < 4 → fz k = (-1)) (hS_fw : ∀ k, k < 4 → fw k = (-1)) {H : Heap} {locs : List Loc} (hP : va_P g vwCl (LW cI cJ cB cZ cL x y b a fz fw) H) (hD : va_D (fun q : Nat => s.heap.size ≤ q) (LW cI cJ cB cZ cL x y b a fz fw)) (hS : va_S (fun q : Nat => s.heap.size ≤ q) s.heap H locs) {ls : Array Slot} (hl : lv_has ls 4 [(0, .ref sb), (1, .ref x), (2, .ref y), (3, .int 0)]) : W p l e room_1 s m #[Value.ref sb] below meth c H locs 1000 100000 (lw_Z below #[Value.ref sb] s) (F0 m 18 ls []) := by
  obtain ⟨hx, hb, hr, hml, hown, hts0, hX, hbl, hlocks, hgv⟩ := id C0
  have hts : ∀ w ∈ v_L_law, w.before #[Value.ref sb] s = true := fun w h => hts0 w (in_v_L_law w h)
  have hown : s.vm.findClass RL = some m.cls := hown
  have hA : ∀ q : Nat, s.heap.size ≤ q → (fun q : Nat => s.heap.size ≤ q) q := fun _ h => h
  have hbA : ¬ (fun q : Nat => s.heap.size ≤ q) sb := Nat.not_le.mpr hbl
  have hNX : nX [(RX11, 9, yX8_init, "CardsAtYule"), (RX8, 17, yX4_init, "CardsAtYule"), (RX11, 18, yX4_init, "CardsAtYule"), (RX11, 29, yX0_init, "CardsAtYule"), (RX11, 36, yX2_init, "CardsAtYule"), (RX11, 43, yX3_init, "CardsAtYule"), (RX11, 50, yX1_init, "CardsAtYule"), (RX11, 57, yX9_init, "CardsAtYule"), (RX11, 64, yX7_init, "CardsAtYule"), (RX11, 71, yX6_init, "CardsAtYule"), (RX11, 78, yX5_init, "CardsAtYule")] s := hNX
  refine lv_iload_n hx hb dL_law_18 rfl (lv_at hl 3 rfl) ?_
  refine lv_aload_n hx hb dL_law_19 rfl (lv_at hl 0 rfl) ?_
  refine va_slen hx hb hX hbl hbA hS dL_law_20 ?_
  refine lv_bipush (v := 6) hx hb dL_law_21 (by decide) ?_
  refine lv_isub hx hb dL_law_23 ?_
  rcases Nat.lt_or_ge L 6 with h6 | h6
  · refine lv_icmp_gt (tgt := 2469) hx hb dL_law_24 (by decide) (fun _ => ?_) (fun cc => absurd (law_short h6) cc)
    refine lv_iconst (v := 1) hx hb dL_law_2469 (by decide) ?_
    refine va_forget (fun q hq => hS.2.2 q hq) ?_
    refine W.widen (k := 600000) (n := 7302250) (Nat.le_of_ble_eq_true rfl) (Nat.le_of_ble_eq_true rfl) ?_
    exact lw_ret hx hb hr hlocks dL_law_2470
  · have e6 : L = 6 := by omega
    subst e6
    refine lv_icmp_gt (tgt := 2469) hx hb dL_law_24 (by decide) (fun cc => absurd cc (by decide)) (fun _ => ?_)
    refine lv_aload_n hx hb dL_law_27 rfl (lv_at hl 0 rfl) ?_
    refine lv_iload_n hx hb dL_law_28 rfl (lv_at hl 3 rfl) ?_
    refine va_sld hx hb hX hbl hbA hS (vc_in (by decide)) dL_law_29 ?_
    refine lv_bipush (v := 63) hx hb dL_law_30 (by decide) ?_
    refine lv_iand hx hb dL_law_32 ?_
    obtain ⟨j, hj, ej⟩ := pk_andE (xs ((0 : Int32).toNatClampNeg)) (m := 63) 6 (by decide)
    refine lv_topi (nm_r (e' := nI j) ej ?_)
    match j, hj with
    | 0, _ => refine lv_tableIn (off := 267) (tgt := 300) hx hb dL_law_33 (by decide) (by decide) (by decide) (by decide) ?_; exact lw_c0 l C0 hK hNX hS_fz hS_fw hP hD hS hl
    | 1, _ => refine lv_tableIn (off := 330) (tgt := 363) hx hb dL_law_33 (by decide) (by decide) (by decide) (by decide) ?_; exact lw_c1 l C0 hK hNX hS_fz hS_fw hP hD hS hl
    | 2, _ => refine lv_tableIn (off := 353) (tgt := 386) hx hb dL_law_33 (by decide) (by decide) (by decide) (by decide) ?_; exact lw_c2 l C0 hK hNX hS_fz hS_fw hP hD hS hl
    | 3, _ => refine lv_tableIn (off := 366) (tgt := 399) hx hb dL_law_33 (by decide) (by decide) (by decide) (by decide) ?_; exact lw_c3 l C0 hK hNX hS_fz hS_fw hP hD hS hl
    | 4, _ => refine lv_tableIn (off := 389) (tgt := 422) hx hb dL_law_33 (by decide) (by decide) (by decide) (by decide) ?_; exact lw_c4 l C0 hK hNX hS_fz hS_fw hP hD hS hl
    | 5, _ => refine lv_tableIn (off := 422) (tgt := 455) hx hb dL_law_33 (by decide) (by decide) (by decide) (by decide) ?_; exact lw_c5 l C0 hK hNX hS_fz hS_fw hP hD hS hl
    | 6, _ => refine lv_tableIn (off := 455) (tgt := 488) hx hb dL_law_33 (by decide) (by decide) (by decide) (by decide) ?_; exact lw_c6 l C0 hK hNX hS_fz hS_fw hP hD hS hl
    | 7, _ => refine lv_tableIn (off := 488) (tgt := 521) hx hb dL_law_33 (by decide) (by decide) (by decide) (by decide) ?_; exact lw_c7 l C0 hK hNX hS_fz hS_fw hP hD hS hl
    | 8, _ => refine lv_tableIn (off := 531) (tgt := 564) hx hb dL_law_33 (by decide) (by decide) (by decide) (by decide) ?_; exact lw_c8 l C0 hK hNX hS_fz hS_fw hP hD hS hl
    | 9, _ => refine lv_tableIn (off := 574) (tgt := 607) hx hb dL_law_33 (by decide) (by decide) (by decide) (by decide) ?_; exact lw_c9 l C0 hK hNX hS_fz hS_fw hP hD hS hl
    | 10, _ => refine lv_tableIn (off := 617) (tgt := 650) hx hb dL_law_33 (by decide) (by decide) (by decide) (by decide) ?_; exact lw_c10 l C0 hK hNX hS_fz hS_fw hP hD hS hl
    | 11, _ => refine lv_tableIn (off := 650) (tgt := 683) hx hb dL_law_33 (by decide) (by decide) (by decide) (by decide) ?_; exact lw_c11 l C0 hK hNX hS_fz hS_fw hP hD hS hl
    | 12, _ => refine lv_tableIn (off := 683) (tgt := 716) hx hb dL_law_33 (by decide) (by decide) (by decide) (by decide) ?_; exact lw_c12 l C0 hK hNX hS_fz hS_fw hP hD hS hl
    | 13, _ => refine lv_tableIn (off := 716) (tgt := 749) hx hb dL_law_33 (by decide) (by decide) (by decide) (by decide) ?_; exact lw_c13 l C0 hK hNX hS_fz hS_fw hP hD hS hl
    | 14, _ => refine lv_tableIn (off := 749) (tgt := 782) hx hb dL_law_33 (by decide) (by decide) (by decide) (by decide) ?_; exact lw_c14 l C0 hK hNX hS_fz hS_fw hP hD hS hl
    | 15, _ => refine lv_tableIn (off := 782) (tgt := 815) hx hb dL_law_33 (by decide) (by decide) (by decide) (by decide) ?_; exact lw_c15 l C0 hK hNX hS_fz hS_fw hP hD hS hl
    | 16, _ => refine lv_tableIn (off := 815) (tgt := 848) hx hb dL_law_33 (by decide) (by decide) (by decide) (by decide) ?_; exact lw_c16 l C0 hK hNX hS_fz hS_fw hP hD hS hl
    | 17, _ => refine lv_tableIn (off := 838) (tgt := 871) hx hb dL_law_33 (by decide) (by decide) (by decide) (by decide) ?_; exact lw_c17 l C0 hK hNX hS_fz hS_fw hP hD hS hl
    | 18, _ => refine lv_tableIn (off := 851) (tgt := 884) hx hb dL_law_33 (by decide) (by decide) (by decide) (by decide) ?_; exact lw_c18 l C0 hK hNX hS_fz hS_fw hP hD hS hl
    | 19, _ => refine lv_tableIn (off := 874) (tgt := 907) hx hb dL_law_33 (by decide) (by decide) (by decide) (by decide) ?_; exact lw_c19 l C0 hK hNX hS_fz hS_fw hP hD hS hl
    | 20, _ => refine lv_tableIn (off := 887) (tgt := 920) hx hb dL_law_33 (by decide) (by decide) (by decide) (by decide) ?_; exact lw_c20 l C0 hK hNX hS_fz hS_fw hP hD hS hl
    | 21, _ => refine lv_tableIn (off := 900) (tgt := 933) hx hb dL_law_33 (by decide) (by decide) (by decide) (by decide) ?_; exact lw_c21 l C0 hK hNX hS_fz hS_fw hP hD hS hl
    | 22, _ => refine lv_tableIn (off := 923) (tgt := 956) hx hb dL_law_33 (by decide) (by decide) (by decide) (by decide) ?_; exact lw_c22 l C0 hK hNX hS_fz hS_fw hP hD hS hl
    | 23, _ => refine lv_tableIn (off := 956) (tgt := 989) hx hb dL_law_33 (by decide) (by decide) (by decide) (by decide) ?_; exact lw_c23 l C0 hK hNX hS_fz hS_fw hP hD hS hl
    | 24, _ => refine lv_tableIn (off := 1009) (tgt := 1042) hx hb dL_law_33 (by decide) (by decide) (by decide) (by decide) ?_; exact lw_c24 l C0 hK hNX hS_fz hS_fw hP hD hS hl
    | 25, _ => refine lv_tableIn (off := 1042) (tgt := 1075) hx hb dL_law_33 (by decide) (by decide) (by decide) (by decide) ?_; exact lw_c25 l C0 hK hNX hS_fz hS_fw hP hD hS hl
    | 26, _ => refine lv_tableIn (off := 1085) (tgt := 1118) hx hb dL_law_33 (by decide) (by decide) (by decide) (by decide) ?_; exact lw_c26 l C0 hK hNX hS_fz hS_fw hP hD hS hl
    | 27, _ => refine lv_tableIn (off := 1118) (tgt := 1151) hx hb dL_law_33 (by decide) (by decide) (by decide) (by decide) ?_; exact lw_c27 l C0 hK hNX hS_fz hS_fw hP hD hS hl
    | 28, _ => refine lv_tableIn (off := 1141) (tgt := 1174) hx hb dL_law_33 (by decide) (by decide) (by decide) (by decide) ?_; exact lw_c28 l C0 hK hNX hS_fz hS_fw hP hD hS hl
    | 29, _ => refine lv_tableIn (off := 1184) (tgt := 1217) hx hb dL_law_33 (by decide) (by decide) (by decide) (by decide) ?_; exact lw_c29 l C0 hK hNX hS_fz hS_fw hP hD hS hl
    | 30, _ => refine lv_tableIn (off := 1217) (tgt := 1250) hx hb dL_law_33 (by decide) (by decide) (by decide) (by decide) ?_; exact lw_c30 l C0 hK hNX hS_fz hS_fw hP hD hS hl
    | 31, _ => refine lv_tableIn (off := 1240) (tgt := 1273) hx hb dL_law_33 (by decide) (by decide) (by decide) (by decide) ?_; exact lw_c31 l C0 hK hNX hS_fz hS_fw hP hD hS hl
    | 32, _ => refine lv_tableIn (off := 1263) (tgt := 1296) hx hb dL_law_33 (by decide) (by decide) (by decide) (by decide) ?_; exact lw_c32 l C0 hK hNX hS_fz hS_fw hP hD hS hl
    | 33, _ => refine lv_tableIn (off := 1276) (tgt := 1309) hx hb dL_law_33 (by decide) (by decide) (by decide) (by decide) ?_; exact lw_c33 l C0 hK hNX hS_fz hS_fw hP hD hS hl
    | 34, _ => refine lv_tableIn (off := 1320) (tgt := 1353) hx hb dL_law_33 (by decide) (by decide) (by decide) (by decide) ?_; exact lw_c34 l C0 hK hNX hS_fz hS_fw hP hD hS hl
    | 35, _ => refine lv_tableIn (off := 1364) (tgt := 1397) hx hb dL_law_33 (by decide) (by decide) (by decide) (by decide) ?_; exact lw_c35 l C0 hK hNX hS_fz hS_fw hP hD hS hl
    | 36, _ => refine lv_tableIn (off := 1408) (tgt := 1441) hx hb dL_law_33 (by decide) (by decide) (by decide) (by decide) ?_; exact lw_c36 l C0 hK hNX hS_fz hS_fw hP hD hS hl
    | 37, _ => refine lv_tableIn (off := 1451) (tgt := 1484) hx hb dL_law_33 (by decide) (by decide) (by decide) (by decide) ?_; exact lw_c37 l C0 hK hNX hS_fz hS_fw hP hD hS hl
    | 38, _ => refine lv_tableIn (off := 1504) (tgt := 1537) hx hb dL_law_33 (by decide) (by decide) (by decide) (by decide) ?_; exact lw_c38 l C0 hK hNX hS_fz hS_fw hP hD hS hl
    | 39, _ => refine lv_tableIn (off := 1547) (tgt := 1580) hx hb dL_law_33 (by decide) (by decide) (by decide) (by decide) ?_; exact lw_c39 l C0 hK hNX hS_fz hS_fw hP hD hS hl
    | 40, _ => refine lv_tableIn (off := 1600) (tgt := 1633) hx hb dL_law_33 (by decide) (by decide) (by decide) (by decide) ?_; exact lw_c40 l C0 hK hNX hS_fz hS_fw hP hD hS hl
    | 41, _ => refine lv_tableIn (off := 1643) (tgt := 1676) hx hb dL_law_33 (by decide) (by decide) (by decide) (by decide) ?_; exact lw_c41 l C0 hK hNX hS_fz hS_fw hP hD hS hl
    | 42, _ => refine lv_tableIn (off := 1676) (tgt := 1709) hx hb dL_law_33 (by decide) (by decide) (by decide) (by decide) ?_; exact lw_c42 l C0 hK hNX hS_fz hS_fw hP hD hS hl
    | 43, _ => refine lv_tableIn (off := 1699) (tgt := 1732) hx hb dL_law_33 (by decide) (by decide) (by decide) (by decide) ?_; exact lw_c43 l C0 hK hNX hS_fz hS_fw hP hD hS hl
    | 44, _ => refine lv_tableIn (off := 1722) (tgt := 1755) hx hb dL_law_33 (by decide) (by decide) (by decide) (by decide) ?_; exact lw_c44 l C0 hK hNX hS_fz hS_fw hP hD hS hl
    | 45, _ => refine lv_tableIn (off := 1745) (tgt := 1778) hx hb dL_law_33 (by decide) (by decide) (by decide) (by decide) ?_; exact lw_c45 l C0 hK hNX hS_fz hS_fw hP hD hS hl
    | 46, _ => refine lv_tableIn (off := 1768) (tgt := 1801) hx hb dL_law_33 (by decide) (by decide) (by decide) (by decide) ?_; exact lw_c46 l C0 hK hNX hS_fz hS_fw hP hD hS hl
    | 47, _ => refine lv_tableIn (off := 1801) (tgt := 1834) hx hb dL_law_33 (by decide) (by decide) (by decide) (by decide) ?_; exact lw_c47 l C0 hK hNX hS_fz hS_fw hP hD hS hl
    | 48, _ => refine lv_tableIn (off := 1845) (tgt := 1878) hx hb dL_law_33 (by decide) (by decide) (by decide) (by decide) ?_; exact lw_c48 l C0 hK hNX hS_fz hS_fw hP hD hS hl
    | 49, _ => refine lv_tableIn (off := 1878) (tgt := 1911) hx hb dL_law_33 (by decide) (by decide) (by decide) (by decide) ?_; exact lw_c49 l C0 hK hNX hS_fz hS_fw hP hD hS hl
    | 50, _ => refine lv_tableIn (off := 1911) (tgt := 1944) hx hb dL_law_33 (by decide) (by decide) (by decide) (by decide) ?_; exact lw_c50 l C0 hK hNX hS_fz hS_fw hP hD hS hl
    | 51, _ => refine lv_tableIn (off := 1944) (tgt := 1977) hx hb dL_law_33 (by decide) (by decide) (by decide) (by decide) ?_; exact lw_c51 l C0 hK hNX hS_fz hS_fw hP hD hS hl
    | 52, _ => refine lv_tableIn (off := 1977) (tgt := 2010) hx hb dL_law_33 (by decide) (by decide) (by decide) (by decide) ?_; exact lw_c52 l C0 hK hNX hS_fz hS_fw hP hD hS hl
    | 53, _ => refine lv_tableIn (off := 2020) (tgt := 2053) hx hb dL_law_33 (by decide) (by decide) (by decide) (by decide) ?_; exact lw_c53 l C0 hK hNX hS_fz hS_fw hP hD hS hl
    | 54, _ => refine lv_tableIn (off := 2063) (tgt := 2096) hx hb dL_law_33 (by decide) (by decide) (by decide) (by decide) ?_; exact lw_c54 l C0 hK hNX hS_fz hS_fw hP hD hS hl
    | 55, _ => refine lv_tableIn (off := 2096) (tgt := 2129) hx hb dL_law_33 (by decide) (by decide) (by decide) (by decide) ?_; exact lw_c55 l C0 hK hNX hS_fz hS_fw hP hD hS hl
    | 56, _ => refine lv_tableIn (off := 2149) (tgt := 2182) hx hb dL_law_33 (by decide) (by decide) (by decide) (by decide) ?_; exact lw_c56 l C0 hK hNX hS_fz hS_fw hP hD hS hl
    | 57, _ => refine lv_tableIn (off := 2182) (tgt := 2215) hx hb dL_law_33 (by decide) (by decide) (by decide) (by decide) ?_; exact lw_c57 l C0 hK hNX hS_fz hS_fw hP hD hS hl
    | 58, _ => refine lv_tableIn (off := 2205) (tgt := 2238) hx hb dL_law_33 (by decide) (by decide) (by decide) (by decide) ?_; exact lw_c58 l C0 hK hNX hS_fz hS_fw hP hD hS hl
    | 59, _ => refine lv_tableIn (off := 2228) (tgt := 2261) hx hb dL_law_33 (by decide) (by decide) (by decide) (by decide) ?_; exact lw_c59 l C0 hK hNX hS_fz hS_fw hP hD hS hl
    | 60, _ => refine lv_tableIn (off := 2251) (tgt := 2284) hx hb dL_law_33 (by decide) (by decide) (by decide) (by decide) ?_; exact lw_c60 l C0 hK hNX hS_fz hS_fw hP hD hS hl
    | 61, _ => refine lv_tableIn (off := 2294) (tgt := 2327) hx hb dL_law_33 (by decide) (by decide) (by decide) (by decide) ?_; exact lw_c61 l C0 hK hNX hS_fz hS_fw hP hD hS hl
    | 62, _ => refine lv_tableIn (off := 2367) (tgt := 2400) hx hb dL_law_33 (by decide) (by decide) (by decide) (by decide) ?_; exact lw_c62 l C0 hK hNX hS_fz hS_fw hP hD hS hl
    | 63, _ =>
      refine lv_tableOut (tgt := 2463) hx hb dL_law_33 (by decide) (by decide) ?_
      refine lv_iinc (v := 6) (lv' := [(3, .int 6), (0, .ref sb), (1, .ref x), (2, .ref y)]) hx hb dL_law_2463 hl (k := 3) rfl (by decide) (by decide) rfl (fun ls hl => ?_)
      refine lv_goto (tgt := 18) hx hb dL_law_2466 (by decide) ?_
      refine lv_iload_n hx hb dL_law_18 rfl (lv_at hl 0 rfl) ?_
      refine lv_aload_n hx hb dL_law_19 rfl (lv_at hl 1 rfl) ?_
      refine va_slen hx hb hX hbl hbA hS dL_law_20 ?_
      refine lv_topi (nm_r (e' := 6) rfl ?_)
      refine lv_bipush (v := 6) hx hb dL_law_21 (by decide) ?_
      refine lv_isub hx hb dL_law_23 ?_
      refine lv_topi (nm_r (e' := 0) (by decide) ?_)
      refine lv_icmp_gt (tgt := 2469) hx hb dL_law_24 (by decide) (fun _ => ?_) (fun c1 => absurd c1 (by decide))
      refine lv_iconst (v := 1) hx hb dL_law_2469 (by decide) ?_
      refine va_forget (fun q hq => hS.2.2 q hq) ?_
      refine W.widen (k := 600000) (n := 7302250) (Nat.le_of_ble_eq_true rfl) (Nat.le_of_ble_eq_true rfl) ?_
      exact lw_ret hx hb hr hlocks dL_law_2470
    | j + 64, hj => exact absurd hj (by omega)
