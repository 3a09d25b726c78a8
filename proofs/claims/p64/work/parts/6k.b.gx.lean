set_option maxHeartbeats 4000000 in
set_option maxRecDepth 100000 in
theorem law_loop {p : Program} {e : Env} {s : State} {m : MethodId} {below : List Frame} {meth : Method} {c : Code} (l : Launch) {sb L : Nat} {xs : Nat → Int32} (hL : L ≤ 3072) (C0 : lw_At p s m meth c sb L xs) {g : va_G} {cI cJ cB cZ cL : ClassId} (hK : va_K g vwCl (tyT cI cJ cB cZ cL) s) {kA vA : Nat → Nat} (hE : ENV kA vA (fun q : Nat => s.heap.size ≤ q) s) {x y : Nat} : ∀ (n ii : Nat), L + 6 - ii < n → ii ≤ 3072 → ∀ (H : Heap) (locs : List Loc) (ls : Array Slot) (XT M : va_W) (sw sn ki mw mn kp : Nat → Int32) (hXT : XTSt cI cJ cB cZ cL x sw sn ki XT) (hM : MSt cI cJ cB cZ cL y mw mn kp M) (hJ : JJ sw sn ki mw mn kp) (hP : va_P g vwCl (XT ++ M) H) (hD : va_D (fun q : Nat => s.heap.size ≤ q) (XT ++ M)) (hS : va_S (fun q : Nat => s.heap.size ≤ q) s.heap H locs) (hl : lv_has ls 4 [(0, .ref sb), (1, .ref x), (2, .ref y), (3, .int (nI ii))]), W p l e room_1 s m #[Value.ref sb] below meth c H locs (1000 + 2 * ii) (100000 + 25 * ii) (lw_Z below #[Value.ref sb] s) (F0 m 18 ls []) := by
  obtain ⟨hx, hb, hr, hml, hown, hts0, hX, hbl, hlocks, hgv⟩ := id C0
  have hts : ∀ w ∈ v_L_law, w.before #[Value.ref sb] s = true := fun w h => hts0 w (in_v_L_law w h)
  have hown : s.vm.findClass RL = some m.cls := hown
  have hA : ∀ q : Nat, s.heap.size ≤ q → (fun q : Nat => s.heap.size ≤ q) q := fun _ h => h
  have hbA : ¬ (fun q : Nat => s.heap.size ≤ q) sb := Nat.not_le.mpr hbl
  intro n
  induction n with
  | zero => intro ii hn; exact absurd hn (Nat.not_lt_zero _)
  | succ n ih =>
    intro ii hn hi H locs ls XT M sw sn ki mw mn kp hXT hM hJ hP hD hS hl
    refine lv_iload_n hx hb dL_law_18 rfl (lv_at hl 3 rfl) ?_
    refine lv_aload_n hx hb dL_law_19 rfl (lv_at hl 0 rfl) ?_
    refine va_slen hx hb hX hbl hbA hS dL_law_20 ?_
    refine lv_bipush (v := 6) hx hb dL_law_21 (by decide) ?_
    refine lv_isub hx hb dL_law_23 ?_
    rcases Nat.lt_or_ge L (ii + 6) with h6 | h6
    · refine lv_icmp_gt (tgt := 2465) hx hb dL_law_24 (by decide) (fun _ => ?_) (fun cc => absurd (law_gt h6 hi) cc)
      refine lv_iconst (v := 1) hx hb dL_law_2465 (by decide) ?_
      refine va_forget (fun q hq => hS.2.2 q hq) ?_
      refine W.widen (k := 600000) (n := 7302250) (by omega) (by omega) ?_
      exact lw_ret hx hb hr hlocks dL_law_2466
    · refine lv_icmp_gt (tgt := 2465) hx hb dL_law_24 (by decide) (fun cc => absurd cc (law_le h6 hL)) (fun _ => ?_)
      have hend : ∀ (H : Heap) (locs : List Loc) (ls : Array Slot) (XT M : va_W) (sw sn ki mw mn kp : Nat → Int32) (hXT : XTSt cI cJ cB cZ cL x sw sn ki XT) (hM : MSt cI cJ cB cZ cL y mw mn kp M) (hJ : JJ sw sn ki mw mn kp) (hP : va_P g vwCl (XT ++ M) H) (hD : va_D (fun q : Nat => s.heap.size ≤ q) (XT ++ M)) (hS : va_S (fun q : Nat => s.heap.size ≤ q) s.heap H locs) (hl : lv_has ls 4 [(0, .ref sb), (1, .ref x), (2, .ref y), (3, .int (nI ii))]), W p l e room_1 s m #[Value.ref sb] below meth c H locs (1009 + 2 * ii) (100145 + 25 * ii) (lw_Z below #[Value.ref sb] s) (F0 m 2459 ls []) := by
        intro H locs ls XT M sw sn ki mw mn kp hXT hM hJ hP hD hS hl
        refine lv_iinc (v := nI (ii + 6)) (lv' := [(3, .int (nI (ii + 6))), (0, .ref sb), (1, .ref x), (2, .ref y)]) hx hb dL_law_2459 hl (k := 3) rfl (nI_add ii 6) (by decide) rfl (fun ls hl => ?_)
        refine lv_goto (tgt := 18) hx hb dL_law_2462 (by decide) ?_
        refine W.widen (k := 1000 + 2 * (ii + 6)) (n := 100000 + 25 * (ii + 6)) (by omega) (by omega) ?_
        exact ih (ii + 6) (by omega) (by omega) H locs ls XT M sw sn ki mw mn kp hXT hM hJ hP hD hS (lv_sub hl [1, 2, 3, 0] rfl)
      refine lv_aload_n hx hb dL_law_27 rfl (lv_at hl 0 rfl) ?_
      refine lv_iload_n hx hb dL_law_28 rfl (lv_at hl 3 rfl) ?_
      refine va_sld hx hb hX hbl hbA hS (lw_i0 h6 hL) dL_law_29 ?_
      refine lv_bipush (v := 63) hx hb dL_law_30 (by decide) ?_
      refine lv_iand hx hb dL_law_32 ?_
      obtain ⟨j, hj, ej⟩ := pk_andE (xs ((nI ii).toNatClampNeg)) (m := 63) 6 (by decide)
      refine lv_topi (nm_r (e' := nI j) ej ?_)
      match j, hj with
      | 0, _ => refine lv_tableIn (off := 267) (tgt := 300) hx hb dL_law_33 (by decide) (by decide) (by decide) (by decide) ?_; exact lw_c0 l hL C0 hK hE h6 hend H locs ls XT M sw sn ki mw mn kp hXT hM hJ hP hD hS hl
      | 1, _ => refine lv_tableIn (off := 330) (tgt := 363) hx hb dL_law_33 (by decide) (by decide) (by decide) (by decide) ?_; exact lw_c1 l hL C0 hK hE h6 hend H locs ls XT M sw sn ki mw mn kp hXT hM hJ hP hD hS hl
      | 2, _ => refine lv_tableIn (off := 353) (tgt := 386) hx hb dL_law_33 (by decide) (by decide) (by decide) (by decide) ?_; exact lw_c2 l hL C0 hK hE h6 hend H locs ls XT M sw sn ki mw mn kp hXT hM hJ hP hD hS hl
      | 3, _ => refine lv_tableIn (off := 366) (tgt := 399) hx hb dL_law_33 (by decide) (by decide) (by decide) (by decide) ?_; exact lw_c3 l hL C0 hK hE h6 hend H locs ls XT M sw sn ki mw mn kp hXT hM hJ hP hD hS hl
      | 4, _ => refine lv_tableIn (off := 389) (tgt := 422) hx hb dL_law_33 (by decide) (by decide) (by decide) (by decide) ?_; exact lw_c4 l hL C0 hK hE h6 hend H locs ls XT M sw sn ki mw mn kp hXT hM hJ hP hD hS hl
      | 5, _ => refine lv_tableIn (off := 422) (tgt := 455) hx hb dL_law_33 (by decide) (by decide) (by decide) (by decide) ?_; exact lw_c5 l hL C0 hK hE h6 hend H locs ls XT M sw sn ki mw mn kp hXT hM hJ hP hD hS hl
      | 6, _ => refine lv_tableIn (off := 455) (tgt := 488) hx hb dL_law_33 (by decide) (by decide) (by decide) (by decide) ?_; exact lw_c6 l hL C0 hK hE h6 hend H locs ls XT M sw sn ki mw mn kp hXT hM hJ hP hD hS hl
      | 7, _ => refine lv_tableIn (off := 488) (tgt := 521) hx hb dL_law_33 (by decide) (by decide) (by decide) (by decide) ?_; exact lw_c7 l hL C0 hK hE h6 hend H locs ls XT M sw sn ki mw mn kp hXT hM hJ hP hD hS hl
      | 8, _ => refine lv_tableIn (off := 531) (tgt := 564) hx hb dL_law_33 (by decide) (by decide) (by decide) (by decide) ?_; exact lw_c8 l hL C0 hK hE h6 hend H locs ls XT M sw sn ki mw mn kp hXT hM hJ hP hD hS hl
      | 9, _ => refine lv_tableIn (off := 574) (tgt := 607) hx hb dL_law_33 (by decide) (by decide) (by decide) (by decide) ?_; exact lw_c9 l hL C0 hK hE h6 hend H locs ls XT M sw sn ki mw mn kp hXT hM hJ hP hD hS hl
      | 10, _ => refine lv_tableIn (off := 617) (tgt := 650) hx hb dL_law_33 (by decide) (by decide) (by decide) (by decide) ?_; exact lw_c10 l hL C0 hK hE h6 hend H locs ls XT M sw sn ki mw mn kp hXT hM hJ hP hD hS hl
      | 11, _ => refine lv_tableIn (off := 650) (tgt := 683) hx hb dL_law_33 (by decide) (by decide) (by decide) (by decide) ?_; exact lw_c11 l hL C0 hK hE h6 hend H locs ls XT M sw sn ki mw mn kp hXT hM hJ hP hD hS hl
      | 12, _ => refine lv_tableIn (off := 683) (tgt := 716) hx hb dL_law_33 (by decide) (by decide) (by decide) (by decide) ?_; exact lw_c12 l hL C0 hK hE h6 hend H locs ls XT M sw sn ki mw mn kp hXT hM hJ hP hD hS hl
      | 13, _ => refine lv_tableIn (off := 716) (tgt := 749) hx hb dL_law_33 (by decide) (by decide) (by decide) (by decide) ?_; exact lw_c13 l hL C0 hK hE h6 hend H locs ls XT M sw sn ki mw mn kp hXT hM hJ hP hD hS hl
      | 14, _ => refine lv_tableIn (off := 749) (tgt := 782) hx hb dL_law_33 (by decide) (by decide) (by decide) (by decide) ?_; exact lw_c14 l hL C0 hK hE h6 hend H locs ls XT M sw sn ki mw mn kp hXT hM hJ hP hD hS hl
      | 15, _ => refine lv_tableIn (off := 782) (tgt := 815) hx hb dL_law_33 (by decide) (by decide) (by decide) (by decide) ?_; exact lw_c15 l hL C0 hK hE h6 hend H locs ls XT M sw sn ki mw mn kp hXT hM hJ hP hD hS hl
      | 16, _ => refine lv_tableIn (off := 815) (tgt := 848) hx hb dL_law_33 (by decide) (by decide) (by decide) (by decide) ?_; exact lw_c16 l hL C0 hK hE h6 hend H locs ls XT M sw sn ki mw mn kp hXT hM hJ hP hD hS hl
      | 17, _ => refine lv_tableIn (off := 838) (tgt := 871) hx hb dL_law_33 (by decide) (by decide) (by decide) (by decide) ?_; exact lw_c17 l hL C0 hK hE h6 hend H locs ls XT M sw sn ki mw mn kp hXT hM hJ hP hD hS hl
      | 18, _ => refine lv_tableIn (off := 851) (tgt := 884) hx hb dL_law_33 (by decide) (by decide) (by decide) (by decide) ?_; exact lw_c18 l hL C0 hK hE h6 hend H locs ls XT M sw sn ki mw mn kp hXT hM hJ hP hD hS hl
      | 19, _ => refine lv_tableIn (off := 874) (tgt := 907) hx hb dL_law_33 (by decide) (by decide) (by decide) (by decide) ?_; exact lw_c19 l hL C0 hK hE h6 hend H locs ls XT M sw sn ki mw mn kp hXT hM hJ hP hD hS hl
      | 20, _ => refine lv_tableIn (off := 887) (tgt := 920) hx hb dL_law_33 (by decide) (by decide) (by decide) (by decide) ?_; exact lw_c20 l hL C0 hK hE h6 hend H locs ls XT M sw sn ki mw mn kp hXT hM hJ hP hD hS hl
      | 21, _ => refine lv_tableIn (off := 900) (tgt := 933) hx hb dL_law_33 (by decide) (by decide) (by decide) (by decide) ?_; exact lw_c21 l hL C0 hK hE h6 hend H locs ls XT M sw sn ki mw mn kp hXT hM hJ hP hD hS hl
      | 22, _ => refine lv_tableIn (off := 923) (tgt := 956) hx hb dL_law_33 (by decide) (by decide) (by decide) (by decide) ?_; exact lw_c22 l hL C0 hK hE h6 hend H locs ls XT M sw sn ki mw mn kp hXT hM hJ hP hD hS hl
      | 23, _ => refine lv_tableIn (off := 956) (tgt := 989) hx hb dL_law_33 (by decide) (by decide) (by decide) (by decide) ?_; exact lw_c23 l hL C0 hK hE h6 hend H locs ls XT M sw sn ki mw mn kp hXT hM hJ hP hD hS hl
      | 24, _ => refine lv_tableIn (off := 1009) (tgt := 1042) hx hb dL_law_33 (by decide) (by decide) (by decide) (by decide) ?_; exact lw_c24 l hL C0 hK hE h6 hend H locs ls XT M sw sn ki mw mn kp hXT hM hJ hP hD hS hl
      | 25, _ => refine lv_tableIn (off := 1042) (tgt := 1075) hx hb dL_law_33 (by decide) (by decide) (by decide) (by decide) ?_; exact lw_c25 l hL C0 hK hE h6 hend H locs ls XT M sw sn ki mw mn kp hXT hM hJ hP hD hS hl
      | 26, _ => refine lv_tableIn (off := 1085) (tgt := 1118) hx hb dL_law_33 (by decide) (by decide) (by decide) (by decide) ?_; exact lw_c26 l hL C0 hK hE h6 hend H locs ls XT M sw sn ki mw mn kp hXT hM hJ hP hD hS hl
      | 27, _ => refine lv_tableIn (off := 1118) (tgt := 1151) hx hb dL_law_33 (by decide) (by decide) (by decide) (by decide) ?_; exact lw_c27 l hL C0 hK hE h6 hend H locs ls XT M sw sn ki mw mn kp hXT hM hJ hP hD hS hl
      | 28, _ => refine lv_tableIn (off := 1141) (tgt := 1174) hx hb dL_law_33 (by decide) (by decide) (by decide) (by decide) ?_; exact lw_c28 l hL C0 hK hE h6 hend H locs ls XT M sw sn ki mw mn kp hXT hM hJ hP hD hS hl
      | 29, _ => refine lv_tableIn (off := 1184) (tgt := 1217) hx hb dL_law_33 (by decide) (by decide) (by decide) (by decide) ?_; exact lw_c29 l hL C0 hK hE h6 hend H locs ls XT M sw sn ki mw mn kp hXT hM hJ hP hD hS hl
      | 30, _ => refine lv_tableIn (off := 1217) (tgt := 1250) hx hb dL_law_33 (by decide) (by decide) (by decide) (by decide) ?_; exact lw_c30 l hL C0 hK hE h6 hend H locs ls XT M sw sn ki mw mn kp hXT hM hJ hP hD hS hl
      | 31, _ => refine lv_tableIn (off := 1240) (tgt := 1273) hx hb dL_law_33 (by decide) (by decide) (by decide) (by decide) ?_; exact lw_c31 l hL C0 hK hE h6 hend H locs ls XT M sw sn ki mw mn kp hXT hM hJ hP hD hS hl
      | 32, _ => refine lv_tableIn (off := 1263) (tgt := 1296) hx hb dL_law_33 (by decide) (by decide) (by decide) (by decide) ?_; exact lw_c32 l hL C0 hK hE h6 hend H locs ls XT M sw sn ki mw mn kp hXT hM hJ hP hD hS hl
      | 33, _ => refine lv_tableIn (off := 1276) (tgt := 1309) hx hb dL_law_33 (by decide) (by decide) (by decide) (by decide) ?_; exact lw_c33 l hL C0 hK hE h6 hend H locs ls XT M sw sn ki mw mn kp hXT hM hJ hP hD hS hl
      | 34, _ => refine lv_tableIn (off := 1319) (tgt := 1352) hx hb dL_law_33 (by decide) (by decide) (by decide) (by decide) ?_; exact lw_c34 l hL C0 hK hE h6 hend H locs ls XT M sw sn ki mw mn kp hXT hM hJ hP hD hS hl
      | 35, _ => refine lv_tableIn (off := 1362) (tgt := 1395) hx hb dL_law_33 (by decide) (by decide) (by decide) (by decide) ?_; exact lw_c35 l hL C0 hK hE h6 hend H locs ls XT M sw sn ki mw mn kp hXT hM hJ hP hD hS hl
      | 36, _ => refine lv_tableIn (off := 1405) (tgt := 1438) hx hb dL_law_33 (by decide) (by decide) (by decide) (by decide) ?_; exact lw_c36 l hL C0 hK hE h6 hend H locs ls XT M sw sn ki mw mn kp hXT hM hJ hP hD hS hl
      | 37, _ => refine lv_tableIn (off := 1448) (tgt := 1481) hx hb dL_law_33 (by decide) (by decide) (by decide) (by decide) ?_; exact lw_c37 l hL C0 hK hE h6 hend H locs ls XT M sw sn ki mw mn kp hXT hM hJ hP hD hS hl
      | 38, _ => refine lv_tableIn (off := 1501) (tgt := 1534) hx hb dL_law_33 (by decide) (by decide) (by decide) (by decide) ?_; exact lw_c38 l hL C0 hK hE h6 hend H locs ls XT M sw sn ki mw mn kp hXT hM hJ hP hD hS hl
      | 39, _ => refine lv_tableIn (off := 1544) (tgt := 1577) hx hb dL_law_33 (by decide) (by decide) (by decide) (by decide) ?_; exact lw_c39 l hL C0 hK hE h6 hend H locs ls XT M sw sn ki mw mn kp hXT hM hJ hP hD hS hl
      | 40, _ => refine lv_tableIn (off := 1597) (tgt := 1630) hx hb dL_law_33 (by decide) (by decide) (by decide) (by decide) ?_; exact lw_c40 l hL C0 hK hE h6 hend H locs ls XT M sw sn ki mw mn kp hXT hM hJ hP hD hS hl
      | 41, _ => refine lv_tableIn (off := 1640) (tgt := 1673) hx hb dL_law_33 (by decide) (by decide) (by decide) (by decide) ?_; exact lw_c41 l hL C0 hK hE h6 hend H locs ls XT M sw sn ki mw mn kp hXT hM hJ hP hD hS hl
      | 42, _ => refine lv_tableIn (off := 1673) (tgt := 1706) hx hb dL_law_33 (by decide) (by decide) (by decide) (by decide) ?_; exact lw_c42 l hL C0 hK hE h6 hend H locs ls XT M sw sn ki mw mn kp hXT hM hJ hP hD hS hl
      | 43, _ => refine lv_tableIn (off := 1696) (tgt := 1729) hx hb dL_law_33 (by decide) (by decide) (by decide) (by decide) ?_; exact lw_c43 l hL C0 hK hE h6 hend H locs ls XT M sw sn ki mw mn kp hXT hM hJ hP hD hS hl
      | 44, _ => refine lv_tableIn (off := 1719) (tgt := 1752) hx hb dL_law_33 (by decide) (by decide) (by decide) (by decide) ?_; exact lw_c44 l hL C0 hK hE h6 hend H locs ls XT M sw sn ki mw mn kp hXT hM hJ hP hD hS hl
      | 45, _ => refine lv_tableIn (off := 1742) (tgt := 1775) hx hb dL_law_33 (by decide) (by decide) (by decide) (by decide) ?_; exact lw_c45 l hL C0 hK hE h6 hend H locs ls XT M sw sn ki mw mn kp hXT hM hJ hP hD hS hl
      | 46, _ => refine lv_tableIn (off := 1765) (tgt := 1798) hx hb dL_law_33 (by decide) (by decide) (by decide) (by decide) ?_; exact lw_c46 l hL C0 hK hE h6 hend H locs ls XT M sw sn ki mw mn kp hXT hM hJ hP hD hS hl
      | 47, _ => refine lv_tableIn (off := 1798) (tgt := 1831) hx hb dL_law_33 (by decide) (by decide) (by decide) (by decide) ?_; exact lw_c47 l hL C0 hK hE h6 hend H locs ls XT M sw sn ki mw mn kp hXT hM hJ hP hD hS hl
      | 48, _ => refine lv_tableIn (off := 1841) (tgt := 1874) hx hb dL_law_33 (by decide) (by decide) (by decide) (by decide) ?_; exact lw_c48 l hL C0 hK hE h6 hend H locs ls XT M sw sn ki mw mn kp hXT hM hJ hP hD hS hl
      | 49, _ => refine lv_tableIn (off := 1874) (tgt := 1907) hx hb dL_law_33 (by decide) (by decide) (by decide) (by decide) ?_; exact lw_c49 l hL C0 hK hE h6 hend H locs ls XT M sw sn ki mw mn kp hXT hM hJ hP hD hS hl
      | 50, _ => refine lv_tableIn (off := 1907) (tgt := 1940) hx hb dL_law_33 (by decide) (by decide) (by decide) (by decide) ?_; exact lw_c50 l hL C0 hK hE h6 hend H locs ls XT M sw sn ki mw mn kp hXT hM hJ hP hD hS hl
      | 51, _ => refine lv_tableIn (off := 1940) (tgt := 1973) hx hb dL_law_33 (by decide) (by decide) (by decide) (by decide) ?_; exact lw_c51 l hL C0 hK hE h6 hend H locs ls XT M sw sn ki mw mn kp hXT hM hJ hP hD hS hl
      | 52, _ => refine lv_tableIn (off := 1973) (tgt := 2006) hx hb dL_law_33 (by decide) (by decide) (by decide) (by decide) ?_; exact lw_c52 l hL C0 hK hE h6 hend H locs ls XT M sw sn ki mw mn kp hXT hM hJ hP hD hS hl
      | 53, _ => refine lv_tableIn (off := 2016) (tgt := 2049) hx hb dL_law_33 (by decide) (by decide) (by decide) (by decide) ?_; exact lw_c53 l hL C0 hK hE h6 hend H locs ls XT M sw sn ki mw mn kp hXT hM hJ hP hD hS hl
      | 54, _ => refine lv_tableIn (off := 2059) (tgt := 2092) hx hb dL_law_33 (by decide) (by decide) (by decide) (by decide) ?_; exact lw_c54 l hL C0 hK hE h6 hend H locs ls XT M sw sn ki mw mn kp hXT hM hJ hP hD hS hl
      | 55, _ => refine lv_tableIn (off := 2092) (tgt := 2125) hx hb dL_law_33 (by decide) (by decide) (by decide) (by decide) ?_; exact lw_c55 l hL C0 hK hE h6 hend H locs ls XT M sw sn ki mw mn kp hXT hM hJ hP hD hS hl
      | 56, _ => refine lv_tableIn (off := 2145) (tgt := 2178) hx hb dL_law_33 (by decide) (by decide) (by decide) (by decide) ?_; exact lw_c56 l hL C0 hK hE h6 hend H locs ls XT M sw sn ki mw mn kp hXT hM hJ hP hD hS hl
      | 57, _ => refine lv_tableIn (off := 2178) (tgt := 2211) hx hb dL_law_33 (by decide) (by decide) (by decide) (by decide) ?_; exact lw_c57 l hL C0 hK hE h6 hend H locs ls XT M sw sn ki mw mn kp hXT hM hJ hP hD hS hl
      | 58, _ => refine lv_tableIn (off := 2201) (tgt := 2234) hx hb dL_law_33 (by decide) (by decide) (by decide) (by decide) ?_; exact lw_c58 l hL C0 hK hE h6 hend H locs ls XT M sw sn ki mw mn kp hXT hM hJ hP hD hS hl
      | 59, _ => refine lv_tableIn (off := 2224) (tgt := 2257) hx hb dL_law_33 (by decide) (by decide) (by decide) (by decide) ?_; exact lw_c59 l hL C0 hK hE h6 hend H locs ls XT M sw sn ki mw mn kp hXT hM hJ hP hD hS hl
      | 60, _ => refine lv_tableIn (off := 2247) (tgt := 2280) hx hb dL_law_33 (by decide) (by decide) (by decide) (by decide) ?_; exact lw_c60 l hL C0 hK hE h6 hend H locs ls XT M sw sn ki mw mn kp hXT hM hJ hP hD hS hl
      | 61, _ => refine lv_tableIn (off := 2290) (tgt := 2323) hx hb dL_law_33 (by decide) (by decide) (by decide) (by decide) ?_; exact lw_c61 l hL C0 hK hE h6 hend H locs ls XT M sw sn ki mw mn kp hXT hM hJ hP hD hS hl
      | 62, _ => refine lv_tableIn (off := 2363) (tgt := 2396) hx hb dL_law_33 (by decide) (by decide) (by decide) (by decide) ?_; exact lw_c62 l hL C0 hK hE h6 hend H locs ls XT M sw sn ki mw mn kp hXT hM hJ hP hD hS hl
      | 63, _ => refine lv_tableOut (tgt := 2459) hx hb dL_law_33 (by decide) (by decide) ?_; exact lw_c63 l hL C0 hK hE h6 hend H locs ls XT M sw sn ki mw mn kp hXT hM hJ hP hD hS hl
      | j + 64, hj => exact absurd hj (by omega)
