/-! what is answered, and what is left, by what was asked -/
def rowV (a b c : Int32) : Int32 := if (0 ≤ a.toInt ∧ a.toInt < 4) ∧ (0 ≤ b.toInt ∧ b.toInt < 4) ∧ c.toInt ≤ 60 then (if c.toInt < 0 then -3 else 0) else -2
def rowU (a b c : Int32) (f : Nat → Int32) (v : Int32) : Nat → Int32 := if (0 ≤ a.toInt ∧ a.toInt < 4) ∧ (0 ≤ b.toInt ∧ b.toInt < 4) ∧ 0 ≤ c.toInt ∧ c.toInt ≤ 60 then upd f a.toNatClampNeg v else f
def keepV (a : Int32) : Int32 := if 0 ≤ a.toInt ∧ a.toInt < 3 then 0 else -2
def keepU (a : Int32) (f : Nat → Int32) : Nat → Int32 := if 0 ≤ a.toInt ∧ a.toInt < 3 then upd f a.toNatClampNeg 1 else f
def onV (a q : Int) : Int32 := if 0 ≤ a ∧ a < 3 then (if q = 0 then -6 else 0) else -2
def wrG (a i s e : Int) : Int32 := if 0 ≤ a ∧ a < 4 then (if e = -1 then -6 else if 0 ≤ i ∧ i < s then 0 else -7) else -2
def paG (a c i k n wa wc sa sc ea ec : Int) : Int32 := if (0 ≤ a ∧ a < 4) ∧ (0 ≤ c ∧ c < 4) then (if ea = -1 ∨ ec = -1 then -6 else if wa = wc then (if (0 ≤ i ∧ 0 ≤ n ∧ i + n ≤ sa) ∧ (0 ≤ k ∧ k + n ≤ sc) then 0 else -7) else -8) else -2
/-- of one slot: size and width of the class's, number and width of the reference's -/
abbrev SJ (s w n e : Int) : Prop := (s = -1 ∧ e = -1) ∨ (s = n ∧ w = e ∧ s ≠ -1 ∧ e ≠ -1)
/-- what both hold alike: the slots' widths and sizes, and which images are kept -/
def JJ (sw sn ki mw mn kp : Nat → Int32) : Prop := (∀ k, k < 4 → SJ (sn k).toInt (sw k).toInt (mn k).toInt (mw k).toInt) ∧ ∀ k, k < 3 → ki k = kp k
abbrev KI (fo : Nat → Option Nat) (ki : Nat → Int32) : Prop := ∀ k, k < 3 → (fo k = none ∧ ki k = 0) ∨ (fo k ≠ none ∧ ki k = 1)
theorem up_s (f : Nat → Int32) (k : Nat) (v : Int32) : upd f k v k = v := by simp [upd]
theorem up_n (f : Nat → Int32) {k j : Nat} (v : Int32) (h : j ≠ k) : upd f k v j = f j := by simp [upd, h]
theorem KI_up {fo f2 : Nat → Option Nat} {ki : Nat → Int32} {jk : Nat} (h : KI fo ki) (h1 : f2 jk ≠ none) (h2 : ∀ j, j ≠ jk → f2 j = fo j) : KI f2 (upd ki jk 1) := by
  intro k hk
  by_cases e : k = jk
  · subst e
    rw [up_s]
    exact Or.inr ⟨h1, rfl⟩
  · rw [up_n ki 1 e, h2 k e]
    exact h k hk
theorem JJ_row {sw sn ki mw mn kp : Nat → Int32} (h : JJ sw sn ki mw mn kp) (a b c : Int32) : JJ (rowU a b c sw b) (rowU a b c sn c) ki (rowU a b c mw b) (rowU a b c mn c) kp := by
  refine ⟨fun k hk => ?_, h.2⟩
  unfold rowU
  by_cases q : (0 ≤ a.toInt ∧ a.toInt < 4) ∧ (0 ≤ b.toInt ∧ b.toInt < 4) ∧ 0 ≤ c.toInt ∧ c.toInt ≤ 60
  · rw [if_pos q, if_pos q, if_pos q, if_pos q]
    by_cases e : k = a.toNatClampNeg
    · subst e
      rw [up_s, up_s, up_s, up_s]
      exact Or.inr ⟨rfl, rfl, by omega, by omega⟩
    · rw [up_n _ _ e, up_n _ _ e, up_n _ _ e, up_n _ _ e]
      exact h.1 k hk
  · rw [if_neg q, if_neg q, if_neg q, if_neg q]
    exact h.1 k hk
theorem JJ_keep {sw sn ki mw mn kp : Nat → Int32} (h : JJ sw sn ki mw mn kp) {a : Int32} {jk : Nat} (hj : jk < 3) (e : a = nI jk) : JJ sw sn (upd ki jk 1) mw mn (keepU a kp) := by
  refine ⟨h.1, fun k hk => ?_⟩
  unfold keepU
  have z : (nI jk).toInt = (jk : Int) := nI_toInt (by omega)
  subst e
  rw [if_pos (by omega), nI_clamp (n := jk) (by omega)]
  by_cases e : k = jk
  · subst e
    rw [up_s, up_s]
  · rw [up_n _ _ e, up_n _ _ e]
    exact h.2 k hk
theorem JJ_keepO {sw sn ki mw mn kp : Nat → Int32} (h : JJ sw sn ki mw mn kp) {a b : Int32} (e : a = b) (ho : ¬ (0 ≤ b.toInt ∧ b.toInt < 3)) : JJ sw sn ki mw mn (keepU a kp) := by
  unfold keepU
  subst e
  rw [if_neg ho]
  exact h
theorem keep_in {jk : Nat} (hj : jk < 3) : keepV (nI jk) = 0 := by
  have z : (nI jk).toInt = (jk : Int) := nI_toInt (by omega)
  unfold keepV
  rw [if_pos (by omega)]
theorem keep_out {a : Int32} (ho : ¬ (0 ≤ a.toInt ∧ a.toInt < 3)) : keepV a = -2 := by
  unfold keepV
  rw [if_neg ho]
theorem on_N {sw sn ki mw mn kp : Nat → Int32} {fo : Nat → Option Nat} (h : JJ sw sn ki mw mn kp) (hk : KI fo ki) {jk : Nat} (hj : jk < 3) (hf : fo jk = none) : onV (nI jk).toInt (kp (nI jk).toNatClampNeg).toInt = -6 := by
  have z : (nI jk).toInt = (jk : Int) := nI_toInt (by omega)
  rw [nI_clamp (n := jk) (by omega), ← h.2 jk hj]
  unfold onV
  rcases hk jk hj with ⟨-, e⟩ | ⟨e, -⟩
  · rw [if_pos (by omega), e]
    exact if_pos (by decide)
  · exact absurd hf e
theorem on_E {sw sn ki mw mn kp : Nat → Int32} {fo : Nat → Option Nat} (h : JJ sw sn ki mw mn kp) (hk : KI fo ki) {jk : Nat} (hj : jk < 3) (hf : fo jk ≠ none) : onV (nI jk).toInt (kp (nI jk).toNatClampNeg).toInt = 0 := by
  have z : (nI jk).toInt = (jk : Int) := nI_toInt (by omega)
  rw [nI_clamp (n := jk) (by omega), ← h.2 jk hj]
  unfold onV
  rcases hk jk hj with ⟨e, -⟩ | ⟨-, e⟩
  · exact absurd e hf
  · rw [if_pos (by omega), e, if_neg (by decide)]
theorem on_O {a : Int32} (q : Int) (ho : ¬ (0 ≤ a.toInt ∧ a.toInt < 3)) : onV a.toInt q = -2 := by
  unfold onV
  rw [if_neg ho]
theorem cl_4 {a : Int32} (h : 0 ≤ a.toInt ∧ a.toInt < 4) : a.toNatClampNeg < 4 := by
  have := cl_t (x := a) rfl h.1
  omega
theorem JJ_write {sw sn ki mw mn kp : Nat → Int32} (h : JJ sw sn ki mw mn kp) (a i : Int32) : wrG a.toInt i.toInt (sn a.toNatClampNeg).toInt (sn a.toNatClampNeg).toInt = wrG a.toInt i.toInt (mn a.toNatClampNeg).toInt (mw a.toNatClampNeg).toInt := by
  unfold wrG
  by_cases q : 0 ≤ a.toInt ∧ a.toInt < 4
  · rw [if_pos q, if_pos q]
    rcases h.1 _ (cl_4 q) with ⟨e1, e2⟩ | ⟨e1, e2, e3, e4⟩
    · rw [if_pos e1, if_pos e2]
    · rw [if_neg e3, if_neg e4, e1]
  · rw [if_neg q, if_neg q]
theorem JJ_paste {sw sn ki mw mn kp : Nat → Int32} (h : JJ sw sn ki mw mn kp) (a i c k n : Int32) : paG a.toInt c.toInt i.toInt k.toInt n.toInt (sw a.toNatClampNeg).toInt (sw c.toNatClampNeg).toInt (sn a.toNatClampNeg).toInt (sn c.toNatClampNeg).toInt (sn a.toNatClampNeg).toInt (sn c.toNatClampNeg).toInt = paG a.toInt c.toInt i.toInt k.toInt n.toInt (mw a.toNatClampNeg).toInt (mw c.toNatClampNeg).toInt (mn a.toNatClampNeg).toInt (mn c.toNatClampNeg).toInt (mw a.toNatClampNeg).toInt (mw c.toNatClampNeg).toInt := by
  unfold paG
  by_cases q : (0 ≤ a.toInt ∧ a.toInt < 4) ∧ (0 ≤ c.toInt ∧ c.toInt < 4)
  · rw [if_pos q, if_pos q]
    rcases h.1 _ (cl_4 q.1) with ⟨e1, e2⟩ | ⟨e1, e2, e3, e4⟩
    · rw [if_pos (Or.inl e1), if_pos (Or.inl e2)]
    · rcases h.1 _ (cl_4 q.2) with ⟨f1, f2⟩ | ⟨f1, f2, f3, f4⟩
      · rw [if_pos (Or.inr f1), if_pos (Or.inr f2)]
      · rw [if_neg (show ¬ ((sn a.toNatClampNeg).toInt = -1 ∨ (sn c.toNatClampNeg).toInt = -1) from by omega), if_neg (show ¬ ((mw a.toNatClampNeg).toInt = -1 ∨ (mw c.toNatClampNeg).toInt = -1) from by omega), e1, e2, f1, f2]
  · rw [if_neg q, if_neg q]
def v_X11_isBelowN : List Cond := .code yX11_isBelow cX11_isBelow 2 (some .boolean) :: (([] : List Cond) ++ ([] : List Cond))
theorem good_v_X11_isBelowN : v_X11_isBelowN.all goodWord = true := ga_c (by decide +kernel) (ga_a (by decide +kernel) rfl)
set_option maxHeartbeats 4000000 in
set_option maxRecDepth 100000 in
theorem q_X11_isBelowN (l : Launch) (g : va_G) (cI cJ cB cZ cL : ClassId) (p0 : Int32) (p1 : Int32) (sz : Nat)  : Met l yX11_isBelow v_X11_isBelowN ({ frames := 0, cells := 0, slots := 0, locals := 0 }) (va_Pc [.int p0, .int p1] (pRO g (tyT cI cJ cB cZ cL) [] sz)) (va_Qi (fun (r : Int32) (u : Unit) => ((r = 1 ∧ 0 ≤ p0.toInt ∧ p0.toInt < p1.toInt) ∨ (r = 0 ∧ ¬ (0 ≤ p0.toInt ∧ p0.toInt < p1.toInt)))) (fun (_ : Unit) (_ : State) => True) (va_A [] sz)) 0 0 (va_A [] sz) := by
  refine Met.ofW (cc := cX11_isBelow) (maxL := 2) (ret := (some .boolean)) (by decide) rfl ?_
  intro p e s m args below meth c s₁ B hml hv
  obtain ⟨rfl, hsz, hP, hK⟩ := hv
  have hx := B.exec
  have hb := B.bytes
  have hr := B.returns
  have hts := atoms_spec (ws := v_X11_isBelowN) B.pre
  have hown : s.vm.findClass RX11 = some m.cls := findClass_of_methodNamed B.named
  have hlocks := B.notSynchronized
  clear B
  subst hsz
  generalize hAe : (va_A [] s.heap.size) = A
  have hA : ∀ q : Nat, s.heap.size ≤ q → A q := fun q h => by rw [← hAe]; exact Or.inr h
  have hS : va_S A s.heap s.heap [] := va_S.rf
  have hl := lv_entry ([.int p0, .int p1]) (n := 2) (Nat.le_of_ble_eq_true rfl)
  rw [lg_entry_eq]
  generalize (lg_sl ([.int p0, .int p1]) ++ List.replicate (2 - (lg_sl ([.int p0, .int p1])).length) Slot.unset).toArray = ls at hl ⊢
  generalize ([.int p0, .int p1] : List Value).toArray = av at hts ⊢
  generalize hQ : MQ below _ av s _ _ A = QQ
  have hl : lv_has ls 2 [(0, .int p0), (1, .int p1)] := hl
  have hP : va_P g vwCl [] s.heap := hP
  refine lv_iload_n hx hb dX11_isBelow_0 rfl (lv_at hl 0 rfl) ?_
  refine lv_if_lt (tgt := 13) hx hb dX11_isBelow_1 (by decide) (fun c1 => ?_) (fun c1 => ?_)
  · have f1 := (show p0.toInt < 0 from z_lt rfl rfl c1)
    have r1a : ir p0.toInt (-2147483648) (-1) := ir_lta f1 (rg_all p0) (ir_c 0) (by decide)
    refine lv_iconst (v := 0) hx hb dX11_isBelow_13 (by decide) ?_
    subst hQ
    exact W.zret (v := 0) hx hb hr rfl (fun t ht hW => ⟨⟨0, (), rfl, (Or.inr ⟨rfl, (by first | omega | decide)⟩), trivial⟩, hS.F ht⟩) hS.2.2 dX11_isBelow_14
  have f1 := (show 0 ≤ p0.toInt from z_nlt rfl rfl c1)
  have r1a : ir p0.toInt 0 2147483647 := ir_leb f1 (ir_c 0) (rg_all p0) (by decide)
  refine lv_iload_n hx hb dX11_isBelow_4 rfl (lv_at hl 0 rfl) ?_
  refine lv_iload_n hx hb dX11_isBelow_5 rfl (lv_at hl 1 rfl) ?_
  refine lv_icmp_ge (tgt := 13) hx hb dX11_isBelow_6 (by decide) (fun c6 => ?_) (fun c6 => ?_)
  · have f6 := (show p1.toInt ≤ p0.toInt from z_le rfl rfl c6)
    refine lv_iconst (v := 0) hx hb dX11_isBelow_13 (by decide) ?_
    subst hQ
    exact W.zret (v := 0) hx hb hr rfl (fun t ht hW => ⟨⟨0, (), rfl, (Or.inr ⟨rfl, (by first | omega | decide)⟩), trivial⟩, hS.F ht⟩) hS.2.2 dX11_isBelow_14
  have f6 := (show p0.toInt < p1.toInt from z_nle rfl rfl c6)
  have r6a : ir p0.toInt 0 2147483646 := ir_lta f6 r1a (rg_all p1) (by decide)
  have r6b : ir p1.toInt 1 2147483647 := ir_ltb f6 r1a (rg_all p1) (by decide)
  refine lv_iconst (v := 1) hx hb dX11_isBelow_9 (by decide) ?_
  refine lv_goto (tgt := 14) hx hb dX11_isBelow_10 (by decide) ?_
  subst hQ
  exact W.zret (v := 1) hx hb hr rfl (fun t ht hW => ⟨⟨1, (), rfl, (Or.inl ⟨rfl, (by first | omega | decide), (by first | omega | decide)⟩), trivial⟩, hS.F ht⟩) hS.2.2 dX11_isBelow_14
def v_X7_layF : List Cond := .code yX7_lay cX7_lay 5 none :: (([.fieldLink RX7 11 "CardsAtYule$Slots" "width" "[I", .fieldLink RX7 15 "CardsAtYule$Slots" "size" "[I", .fieldLink RX7 18 "CardsAtYule$Slots" "numbers" "[J"] : List Cond) ++ (wsX70 ++ ([] : List Cond)))
theorem good_v_X7_layF : v_X7_layF.all goodWord = true := ga_c (by decide +kernel) (ga_a (by decide +kernel) (ga_a good_wsX70 rfl))
set_option maxHeartbeats 4000000 in
set_option maxRecDepth 100000 in
theorem q_X7_layF (l : Launch) (g : va_G) (cI cJ cB cZ cL : ClassId) (p0 : Int32) (p1 : Int32) (p2 : Int32) (sl : Nat) (sl_width : Nat) (sl_size : Nat) (sl_numbers : Nat) (sl_width_c : Nat → Int32) (sl_size_c : Nat → Int32) (sl_numbers_c : Nat → Int64) (sz : Nat) (hv_p0 : ir p0.toInt 0 3) (hv_p2 : ir p2.toInt 0 60) (ha_sl_size_c : ar sl_size_c 4 (-1) 60) : Met l yX7_lay v_X7_layF ({ frames := 0, cells := 0, slots := 0, locals := 0 }) (va_Pc [.ref sl, .int p0, .int p1, .int p2] (pRW g (tyT cI cJ cB cZ cL) [(sl, .inr (7, [.ref sl_width, .ref sl_size, .ref sl_numbers])), (sl_width, .inl (cI, 4, .inl sl_width_c)), (sl_size, .inl (cI, 4, .inl sl_size_c)), (sl_numbers, .inl (cJ, 240, .inr (.inl sl_numbers_c)))] sz)) (va_Qv (fun (u : (Nat → Int32) × (Nat → Int32) × (Nat → Int64)) => match u with | (n_sl_width_c, n_sl_size_c, n_sl_numbers_c) => (ar n_sl_size_c 4 (-1) 60) ∧ (n_sl_width_c = upd sl_width_c p0.toNatClampNeg p1) ∧ (n_sl_size_c = upd sl_size_c p0.toNatClampNeg p2)) (fun (u : (Nat → Int32) × (Nat → Int32) × (Nat → Int64)) (t : State) => bRW g (tyT cI cJ cB cZ cL) (va_A [(sl, .inr (7, [.ref sl_width, .ref sl_size, .ref sl_numbers])), (sl_width, .inl (cI, 4, .inl sl_width_c)), (sl_size, .inl (cI, 4, .inl sl_size_c)), (sl_numbers, .inl (cJ, 240, .inr (.inl sl_numbers_c)))] sz) (match u with | (n_sl_width_c, n_sl_size_c, n_sl_numbers_c) => [(sl, .inr (7, [.ref sl_width, .ref sl_size, .ref sl_numbers])), (sl_width, .inl (cI, 4, .inl n_sl_width_c)), (sl_size, .inl (cI, 4, .inl n_sl_size_c)), (sl_numbers, .inl (cJ, 240, .inr (.inl n_sl_numbers_c)))]) t) (va_A [(sl, .inr (7, [.ref sl_width, .ref sl_size, .ref sl_numbers])), (sl_width, .inl (cI, 4, .inl sl_width_c)), (sl_size, .inl (cI, 4, .inl sl_size_c)), (sl_numbers, .inl (cJ, 240, .inr (.inl sl_numbers_c)))] sz)) 0 0 (va_A [(sl, .inr (7, [.ref sl_width, .ref sl_size, .ref sl_numbers])), (sl_width, .inl (cI, 4, .inl sl_width_c)), (sl_size, .inl (cI, 4, .inl sl_size_c)), (sl_numbers, .inl (cJ, 240, .inr (.inl sl_numbers_c)))] sz) := by
  refine Met.ofW (cc := cX7_lay) (maxL := 5) (ret := none) (by decide) rfl ?_
  intro p e s m args below meth c s₁ B hml hv
  obtain ⟨rfl, hsz, hP, hK, hD0⟩ := hv
  have hx := B.exec
  have hb := B.bytes
  have hr := B.returns
  have hts := atoms_spec (ws := v_X7_layF) B.pre
  have hown : s.vm.findClass RX7 = some m.cls := findClass_of_methodNamed B.named
  have hlocks := B.notSynchronized
  clear B
  subst hsz
  have iX7 : ∀ w ∈ wsX70, w ∈ v_X7_layF := (fun _ h => List.mem_cons_of_mem _ (List.mem_append_right _ (List.mem_append_left _ h)))
  have hD := hD0.self (sz := s.heap.size)
  generalize hAe : (va_A [(sl, .inr (7, [.ref sl_width, .ref sl_size, .ref sl_numbers])), (sl_width, .inl (cI, 4, .inl sl_width_c)), (sl_size, .inl (cI, 4, .inl sl_size_c)), (sl_numbers, .inl (cJ, 240, .inr (.inl sl_numbers_c)))] s.heap.size) = A at hD ⊢
  have hA : ∀ q : Nat, s.heap.size ≤ q → A q := fun q h => by rw [← hAe]; exact Or.inr h
  have hS : va_S A s.heap s.heap [] := va_S.rf
  have hl := lv_entry ([.ref sl, .int p0, .int p1, .int p2]) (n := 5) (Nat.le_of_ble_eq_true rfl)
  rw [lg_entry_eq]
  generalize (lg_sl ([.ref sl, .int p0, .int p1, .int p2]) ++ List.replicate (5 - (lg_sl ([.ref sl, .int p0, .int p1, .int p2])).length) Slot.unset).toArray = ls at hl ⊢
  generalize ([.ref sl, .int p0, .int p1, .int p2] : List Value).toArray = av at hts ⊢
  generalize hQ : MQ below _ av s _ _ A = QQ
  have hl : lv_has ls 5 [(0, .ref sl), (1, .int p0), (2, .int p1), (3, .int p2)] := hl
  have hP : va_P g vwCl [(sl, .inr (7, [.ref sl_width, .ref sl_size, .ref sl_numbers])), (sl_width, .inl (cI, 4, .inl sl_width_c)), (sl_size, .inl (cI, 4, .inl sl_size_c)), (sl_numbers, .inl (cJ, 240, .inr (.inl sl_numbers_c)))] s.heap := hP
  refine lv_aload_n hx hb dX7_lay_0 rfl (lv_at hl 0 rfl) ?_
  refine va_get (D := g) (ci := 7) (v := .ref sl_width) (C := RX7) (T := TX7) (N := 3) hx hb hts iX7 hown hK hP 0 rfl rfl 0 (by decide) (hts (.fieldLink RX7 11 "CardsAtYule$Slots" "width" "[I") (List.mem_cons_of_mem _ (List.mem_append_left _ (List.mem_of_getElem? (i := 0) rfl)))) (fun _ h9 => h9) rfl dX7_lay_1 ?_
  refine lv_iload_n hx hb dX7_lay_4 rfl (lv_at hl 1 rfl) ?_
  refine lv_iload_n hx hb dX7_lay_5 rfl (lv_at hl 2 rfl) ?_
  refine va_iast (D := g) hx hb hK hP hD hS 1 0 rfl rfl (vi_rg rfl hv_p0 (by decide) (by decide)) dX7_lay_6 (fun H locs hP hD hS => ?_)
  obtain ⟨g6, e6⟩ : ∃ z, z = upd sl_width_c p0.toNatClampNeg p1 := ⟨_, rfl⟩
  have hP : va_P g vwCl [(sl, .inr (7, [.ref sl_width, .ref sl_size, .ref sl_numbers])), (sl_width, .inl (cI, 4, .inl (upd sl_width_c p0.toNatClampNeg p1))), (sl_size, .inl (cI, 4, .inl sl_size_c)), (sl_numbers, .inl (cJ, 240, .inr (.inl sl_numbers_c)))] H := hP
  have hD : va_D A [(sl, .inr (7, [.ref sl_width, .ref sl_size, .ref sl_numbers])), (sl_width, .inl (cI, 4, .inl (upd sl_width_c p0.toNatClampNeg p1))), (sl_size, .inl (cI, 4, .inl sl_size_c)), (sl_numbers, .inl (cJ, 240, .inr (.inl sl_numbers_c)))] := hD
  rw [← e6] at hP hD
  refine lv_aload_n hx hb dX7_lay_7 rfl (lv_at hl 0 rfl) ?_
  refine va_get (D := g) (ci := 7) (v := .ref sl_size) (C := RX7) (T := TX7) (N := 3) hx hb hts iX7 hown hK hP 0 rfl rfl 1 (by decide) (hts (.fieldLink RX7 15 "CardsAtYule$Slots" "size" "[I") (List.mem_cons_of_mem _ (List.mem_append_left _ (List.mem_of_getElem? (i := 1) rfl)))) (fun _ h9 => h9) rfl dX7_lay_8 ?_
  refine lv_iload_n hx hb dX7_lay_11 rfl (lv_at hl 1 rfl) ?_
  refine lv_iload_n hx hb dX7_lay_12 rfl (lv_at hl 3 rfl) ?_
  refine va_iast (D := g) hx hb hK hP hD hS 2 0 rfl rfl (vi_rg rfl hv_p0 (by decide) (by decide)) dX7_lay_13 (fun H locs hP hD hS => ?_)
  obtain ⟨g13, e13⟩ : ∃ z, z = upd sl_size_c p0.toNatClampNeg p2 := ⟨_, rfl⟩
  have hP : va_P g vwCl [(sl, .inr (7, [.ref sl_width, .ref sl_size, .ref sl_numbers])), (sl_width, .inl (cI, 4, .inl g6)), (sl_size, .inl (cI, 4, .inl (upd sl_size_c p0.toNatClampNeg p2))), (sl_numbers, .inl (cJ, 240, .inr (.inl sl_numbers_c)))] H := hP
  have hD : va_D A [(sl, .inr (7, [.ref sl_width, .ref sl_size, .ref sl_numbers])), (sl_width, .inl (cI, 4, .inl g6)), (sl_size, .inl (cI, 4, .inl (upd sl_size_c p0.toNatClampNeg p2))), (sl_numbers, .inl (cJ, 240, .inr (.inl sl_numbers_c)))] := hD
  rw [← e13] at hP hD
  have a13 : ar g13 4 (-1) 60 := by rw [e13]; exact ar_u ha_sl_size_c (ir_w hv_p2 (by decide) (by decide))
  refine lv_iconst (v := 0) hx hb dX7_lay_14 (by decide) ?_
  refine lv_istore (lv' := [(4, .int 0), (0, .ref sl), (1, .int p0), (2, .int p1), (3, .int p2)]) hx hb dX7_lay_15 hl (by decide) rfl (fun ls hl => ?_)
  have J17 : ∀ (n17 : Nat) (j17_l4 : Int32) (j17_sl_numbers_c : Nat → Int64) (H : Heap) (locs : List Loc) (ls : Array Slot), (61 - j17_l4.toInt).toNat < n17 → (ir j17_l4.toInt 0 60) → va_P g vwCl [(sl, .inr (7, [.ref sl_width, .ref sl_size, .ref sl_numbers])), (sl_width, .inl (cI, 4, .inl g6)), (sl_size, .inl (cI, 4, .inl g13)), (sl_numbers, .inl (cJ, 240, .inr (.inl j17_sl_numbers_c)))] H → va_D A [(sl, .inr (7, [.ref sl_width, .ref sl_size, .ref sl_numbers])), (sl_width, .inl (cI, 4, .inl g6)), (sl_size, .inl (cI, 4, .inl g13)), (sl_numbers, .inl (cJ, 240, .inr (.inl j17_sl_numbers_c)))] → va_S A s.heap H locs → lv_has ls 5 [(0, .ref sl), (1, .int p0), (3, .int p2), (4, .int j17_l4)] → W p l e (headSpec v_X7_layF ({ frames := 0, cells := 0, slots := 0, locals := 0 })).room s m av below meth c H locs 0 0 QQ (F0 m 17 ls []) := by
    intro n17
    induction n17 with
    | zero => exact fun j17_l4 j17_sl_numbers_c H locs ls hn => absurd hn (Nat.not_lt_zero _)
    | succ n17 ih17 =>
      intro j17_l4 j17_sl_numbers_c H locs ls hn17 hj17_l4 hP hD hS hl
      refine lv_iload hx hb dX7_lay_17 (lv_at hl 3 rfl) ?_
      refine lv_iload_n hx hb dX7_lay_19 rfl (lv_at hl 2 rfl) ?_
      refine lv_icmp_ge (tgt := 42) hx hb dX7_lay_20 (by decide) (fun c20 => ?_) (fun c20 => ?_)
      · have f20 := (show p2.toInt ≤ j17_l4.toInt from z_le rfl rfl c20)
        subst hQ
        have hP9 := hP.sub (ws' := [(sl, .inr (7, [.ref sl_width, .ref sl_size, .ref sl_numbers])), (sl_width, .inl (cI, 4, .inl g6)), (sl_size, .inl (cI, 4, .inl g13)), (sl_numbers, .inl (cJ, 240, .inr (.inl j17_sl_numbers_c)))]) [0, 1, 2, 3] rfl
        have hD9 := hD.sub (ws' := [(sl, .inr (7, [.ref sl_width, .ref sl_size, .ref sl_numbers])), (sl_width, .inl (cI, 4, .inl g6)), (sl_size, .inl (cI, 4, .inl g13)), (sl_numbers, .inl (cJ, 240, .inr (.inl j17_sl_numbers_c)))]) [0, 1, 2, 3] (by decide) rfl
        exact W.vret hx hb hr (fun t ht hW => ⟨⟨(g6, g13, j17_sl_numbers_c), rfl, ⟨a13, (by assumption), (by assumption)⟩, ⟨by rw [ht]; exact hP9, va_K.moved hW.alike hK, hD9⟩⟩, hS.F ht⟩) hS.2.2 dX7_lay_42
      have f20 := (show j17_l4.toInt < p2.toInt from z_nle rfl rfl c20)
      have r20a : ir j17_l4.toInt 0 59 := ir_lta f20 hj17_l4 hv_p2 (by decide)
      have r20b : ir p2.toInt 1 60 := ir_ltb f20 hj17_l4 hv_p2 (by decide)
      refine lv_aload_n hx hb dX7_lay_23 rfl (lv_at hl 0 rfl) ?_
      refine va_get (D := g) (ci := 7) (v := .ref sl_numbers) (C := RX7) (T := TX7) (N := 3) hx hb hts iX7 hown hK hP 0 rfl rfl 2 (by decide) (hts (.fieldLink RX7 18 "CardsAtYule$Slots" "numbers" "[J") (List.mem_cons_of_mem _ (List.mem_append_left _ (List.mem_of_getElem? (i := 2) rfl)))) (fun _ h9 => h9) rfl dX7_lay_24 ?_
      refine lv_iload_n hx hb dX7_lay_27 rfl (lv_at hl 1 rfl) ?_
      refine lv_bipush (v := 60) hx hb dX7_lay_28 (by decide) ?_
      refine lv_imul hx hb dX7_lay_30 ?_
      refine lv_topi (fun y30 e30 => ?_)
      have q30 : y30.toInt = p0.toInt * 60 := by rw [e30]; exact mu_z rfl rfl hv_p0 (ir_c 60) (by decide) (by decide) (by decide)
      have r30 : ir y30.toInt 0 180 := mu_r q30 hv_p0 (ir_c 60) (by decide) (by decide) (by decide) (by decide)
      refine lv_iload hx hb dX7_lay_31 (lv_at hl 3 rfl) ?_
      refine lv_iadd hx hb dX7_lay_33 ?_
      refine lv_topi (fun y33 e33 => ?_)
      have q33 : y33.toInt = y30.toInt + j17_l4.toInt := by rw [e33]; exact ad_z rfl rfl r30 r20a (by decide) (by decide)
      have r33 : ir y33.toInt 0 239 := ad_r q33 r30 r20a (by decide) (by decide)
      refine lv_lconst (v := 0) hx hb dX7_lay_34 (by decide) ?_
      refine va_last (D := g) hx hb hK hP hD hS 3 1 rfl rfl (vi_rg rfl r33 (by decide) (by decide)) dX7_lay_35 (fun H locs hP hD hS => ?_)
      obtain ⟨g35, e35⟩ : ∃ z, z = vp_updL j17_sl_numbers_c y33.toNatClampNeg (0 : Int64) := ⟨_, rfl⟩
      have hP : va_P g vwCl [(sl, .inr (7, [.ref sl_width, .ref sl_size, .ref sl_numbers])), (sl_width, .inl (cI, 4, .inl g6)), (sl_size, .inl (cI, 4, .inl g13)), (sl_numbers, .inl (cJ, 240, .inr (.inl (vp_updL j17_sl_numbers_c y33.toNatClampNeg (0 : Int64)))))] H := hP
      have hD : va_D A [(sl, .inr (7, [.ref sl_width, .ref sl_size, .ref sl_numbers])), (sl_width, .inl (cI, 4, .inl g6)), (sl_size, .inl (cI, 4, .inl g13)), (sl_numbers, .inl (cJ, 240, .inr (.inl (vp_updL j17_sl_numbers_c y33.toNatClampNeg (0 : Int64)))))] := hD
      rw [← e35] at hP hD
      obtain ⟨y36, e36⟩ : ∃ y : Int32, y = j17_l4 + 1 := ⟨_, rfl⟩
      have q36 : y36.toInt = j17_l4.toInt + 1 := by rw [e36]; exact ad_z rfl rfl r20a (ir_c 1) (by decide) (by decide)
      have r36 : ir y36.toInt 1 60 := ad_r q36 r20a (ir_c 1) (by decide) (by decide)
      refine lv_iinc (v := y36) (lv' := [(4, .int y36), (0, .ref sl), (1, .int p0), (3, .int p2)]) hx hb dX7_lay_36 hl (k := 3) rfl e36.symm (by decide) rfl (fun ls hl => ?_)
      refine lv_goto (tgt := 17) hx hb dX7_lay_39 (by decide) ?_
      exact ih17 y36 g35 _ _ _ (by omega) (ir_w r36 (by decide) (by decide)) (hP.sub [0, 1, 2, 3] rfl) (hD.sub [0, 1, 2, 3] (by decide) rfl) hS (lv_sub hl [1, 2, 3, 0] rfl)
  exact J17 _ 0 sl_numbers_c _ _ _ (Nat.lt_succ_self _) (by decide) (hP.sub [0, 1, 2, 3] rfl) (hD.sub [0, 1, 2, 3] (by decide) rfl) hS (lv_sub hl [1, 2, 4, 0] rfl)
def v_X7_hasF : List Cond := .code yX7_has cX7_has 2 (some .boolean) :: (([.fieldLink RX7 15 "CardsAtYule$Slots" "size" "[I"] : List Cond) ++ (wsX70 ++ ([] : List Cond)))
theorem good_v_X7_hasF : v_X7_hasF.all goodWord = true := ga_c (by decide +kernel) (ga_a (by decide +kernel) (ga_a good_wsX70 rfl))
set_option maxHeartbeats 4000000 in
set_option maxRecDepth 100000 in
theorem q_X7_hasF (l : Launch) (g : va_G) (cI cJ cB cZ cL : ClassId) (p0 : Int32) (sl : Nat) (sl_width : Nat) (sl_size : Nat) (sl_numbers : Nat) (sl_size_c : Nat → Int32) (sz : Nat) (hv_p0 : ir p0.toInt 0 3) (ha_sl_size_c : ar sl_size_c 4 (-1) 60) : Met l yX7_has v_X7_hasF ({ frames := 0, cells := 0, slots := 0, locals := 0 }) (va_Pc [.ref sl, .int p0] (pRO g (tyT cI cJ cB cZ cL) [(sl, .inr (7, [.ref sl_width, .ref sl_size, .ref sl_numbers])), (sl_size, .inl (cI, 4, .inl sl_size_c))] sz)) (va_Qi (fun (r : Int32) (u : Unit) => ((r = 1 ∧ (sl_size_c p0.toNatClampNeg).toInt ≠ -1) ∨ (r = 0 ∧ (sl_size_c p0.toNatClampNeg).toInt = -1))) (fun (_ : Unit) (_ : State) => True) (va_A [] sz)) 0 0 (va_A [] sz) := by
  refine Met.ofW (cc := cX7_has) (maxL := 2) (ret := (some .boolean)) (by decide) rfl ?_
  intro p e s m args below meth c s₁ B hml hv
  obtain ⟨rfl, hsz, hP, hK⟩ := hv
  have hx := B.exec
  have hb := B.bytes
  have hr := B.returns
  have hts := atoms_spec (ws := v_X7_hasF) B.pre
  have hown : s.vm.findClass RX7 = some m.cls := findClass_of_methodNamed B.named
  have hlocks := B.notSynchronized
  clear B
  subst hsz
  have iX7 : ∀ w ∈ wsX70, w ∈ v_X7_hasF := (fun _ h => List.mem_cons_of_mem _ (List.mem_append_right _ (List.mem_append_left _ h)))
  generalize hAe : (va_A [] s.heap.size) = A
  have hA : ∀ q : Nat, s.heap.size ≤ q → A q := fun q h => by rw [← hAe]; exact Or.inr h
  have hS : va_S A s.heap s.heap [] := va_S.rf
  have hl := lv_entry ([.ref sl, .int p0]) (n := 2) (Nat.le_of_ble_eq_true rfl)
  rw [lg_entry_eq]
  generalize (lg_sl ([.ref sl, .int p0]) ++ List.replicate (2 - (lg_sl ([.ref sl, .int p0])).length) Slot.unset).toArray = ls at hl ⊢
  generalize ([.ref sl, .int p0] : List Value).toArray = av at hts ⊢
  generalize hQ : MQ below _ av s _ _ A = QQ
  have hl : lv_has ls 2 [(0, .ref sl), (1, .int p0)] := hl
  have hP : va_P g vwCl [(sl, .inr (7, [.ref sl_width, .ref sl_size, .ref sl_numbers])), (sl_size, .inl (cI, 4, .inl sl_size_c))] s.heap := hP
  refine lv_aload_n hx hb dX7_has_0 rfl (lv_at hl 0 rfl) ?_
  refine va_get (D := g) (ci := 7) (v := .ref sl_size) (C := RX7) (T := TX7) (N := 3) hx hb hts iX7 hown hK hP 0 rfl rfl 1 (by decide) (hts (.fieldLink RX7 15 "CardsAtYule$Slots" "size" "[I") (List.mem_cons_of_mem _ (List.mem_append_left _ (List.mem_of_getElem? (i := 0) rfl)))) (fun _ h9 => h9) rfl dX7_has_1 ?_
  refine lv_iload_n hx hb dX7_has_4 rfl (lv_at hl 1 rfl) ?_
  refine va_iald (D := g) hx hb hK hP 1 0 rfl rfl (vi_rg rfl hv_p0 (by decide) (by decide)) dX7_has_5 ?_
  have r5 : ir (sl_size_c p0.toNatClampNeg).toInt (-1) 60 := ha_sl_size_c _ (vi_cl (vi_rg rfl hv_p0 (by decide) (by decide)))
  refine lv_iconst (v := (-1)) hx hb dX7_has_6 (by decide) ?_
  refine lv_icmp_eq (tgt := 14) hx hb dX7_has_7 (by decide) (fun c7 => ?_) (fun c7 => ?_)
  · have f7 := (show (sl_size_c p0.toNatClampNeg).toInt = (-1) from z_eq rfl rfl c7)
    have r7a : ir (sl_size_c p0.toNatClampNeg).toInt (-1) (-1) := ir_eqa f7 r5 (ir_c (-1)) (by decide) (by decide)
    refine lv_iconst (v := 0) hx hb dX7_has_14 (by decide) ?_
    subst hQ
    exact W.zret (v := 0) hx hb hr rfl (fun t ht hW => ⟨⟨0, (), rfl, (Or.inr ⟨rfl, (by first | omega | decide)⟩), trivial⟩, hS.F ht⟩) hS.2.2 dX7_has_15
  have f7 := (show (sl_size_c p0.toNatClampNeg).toInt ≠ (-1) from z_ne rfl rfl c7)
  have r7a : ir (sl_size_c p0.toNatClampNeg).toInt 0 60 := ir_nel f7 r5 (by decide) (by decide)
  refine lv_iconst (v := 1) hx hb dX7_has_10 (by decide) ?_
  refine lv_goto (tgt := 15) hx hb dX7_has_11 (by decide) ?_
  subst hQ
  exact W.zret (v := 1) hx hb hr rfl (fun t ht hW => ⟨⟨1, (), rfl, (Or.inl ⟨rfl, (by first | omega | decide)⟩), trivial⟩, hS.F ht⟩) hS.2.2 dX7_has_15
def v_X7_holdsF : List Cond := .code yX7_holds cX7_holds 4 (some .boolean) :: (([.fieldLink RX7 15 "CardsAtYule$Slots" "size" "[I"] : List Cond) ++ (wsX70 ++ ([] : List Cond)))
theorem good_v_X7_holdsF : v_X7_holdsF.all goodWord = true := ga_c (by decide +kernel) (ga_a (by decide +kernel) (ga_a good_wsX70 rfl))
set_option maxHeartbeats 4000000 in
set_option maxRecDepth 100000 in
theorem q_X7_holdsF (l : Launch) (g : va_G) (cI cJ cB cZ cL : ClassId) (p0 : Int32) (p1 : Int32) (p2 : Int32) (sl : Nat) (sl_width : Nat) (sl_size : Nat) (sl_numbers : Nat) (sl_size_c : Nat → Int32) (sz : Nat) (hv_p0 : ir p0.toInt 0 3) (ha_sl_size_c : ar sl_size_c 4 (-1) 60) : Met l yX7_holds v_X7_holdsF ({ frames := 0, cells := 0, slots := 0, locals := 0 }) (va_Pc [.ref sl, .int p0, .int p1, .int p2] (pRO g (tyT cI cJ cB cZ cL) [(sl, .inr (7, [.ref sl_width, .ref sl_size, .ref sl_numbers])), (sl_size, .inl (cI, 4, .inl sl_size_c))] sz)) (va_Qi (fun (r : Int32) (u : Unit) => ((r = 1 ∧ 0 ≤ p1.toInt ∧ 0 ≤ p2.toInt ∧ p1.toInt + p2.toInt ≤ 60 ∧ p1.toInt + p2.toInt ≤ (sl_size_c p0.toNatClampNeg).toInt) ∨ (r = 0 ∧ ¬ (0 ≤ p1.toInt ∧ 0 ≤ p2.toInt ∧ p1.toInt + p2.toInt ≤ (sl_size_c p0.toNatClampNeg).toInt)))) (fun (_ : Unit) (_ : State) => True) (va_A [] sz)) 0 0 (va_A [] sz) := by
  refine Met.ofW (cc := cX7_holds) (maxL := 4) (ret := (some .boolean)) (by decide) rfl ?_
  intro p e s m args below meth c s₁ B hml hv
  obtain ⟨rfl, hsz, hP, hK⟩ := hv
  have hx := B.exec
  have hb := B.bytes
  have hr := B.returns
  have hts := atoms_spec (ws := v_X7_holdsF) B.pre
  have hown : s.vm.findClass RX7 = some m.cls := findClass_of_methodNamed B.named
  have hlocks := B.notSynchronized
  clear B
  subst hsz
  have iX7 : ∀ w ∈ wsX70, w ∈ v_X7_holdsF := (fun _ h => List.mem_cons_of_mem _ (List.mem_append_right _ (List.mem_append_left _ h)))
  generalize hAe : (va_A [] s.heap.size) = A
  have hA : ∀ q : Nat, s.heap.size ≤ q → A q := fun q h => by rw [← hAe]; exact Or.inr h
  have hS : va_S A s.heap s.heap [] := va_S.rf
  have hl := lv_entry ([.ref sl, .int p0, .int p1, .int p2]) (n := 4) (Nat.le_of_ble_eq_true rfl)
  rw [lg_entry_eq]
  generalize (lg_sl ([.ref sl, .int p0, .int p1, .int p2]) ++ List.replicate (4 - (lg_sl ([.ref sl, .int p0, .int p1, .int p2])).length) Slot.unset).toArray = ls at hl ⊢
  generalize ([.ref sl, .int p0, .int p1, .int p2] : List Value).toArray = av at hts ⊢
  generalize hQ : MQ below _ av s _ _ A = QQ
  have hl : lv_has ls 4 [(0, .ref sl), (1, .int p0), (2, .int p1), (3, .int p2)] := hl
  have hP : va_P g vwCl [(sl, .inr (7, [.ref sl_width, .ref sl_size, .ref sl_numbers])), (sl_size, .inl (cI, 4, .inl sl_size_c))] s.heap := hP
  refine lv_iload_n hx hb dX7_holds_0 rfl (lv_at hl 2 rfl) ?_
  refine lv_if_lt (tgt := 34) hx hb dX7_holds_1 (by decide) (fun c1 => ?_) (fun c1 => ?_)
  · have f1 := (show p1.toInt < 0 from z_lt rfl rfl c1)
    have r1a : ir p1.toInt (-2147483648) (-1) := ir_lta f1 (rg_all p1) (ir_c 0) (by decide)
    refine lv_iconst (v := 0) hx hb dX7_holds_34 (by decide) ?_
    subst hQ
    exact W.zret (v := 0) hx hb hr rfl (fun t ht hW => ⟨⟨0, (), rfl, (Or.inr ⟨rfl, (by first | omega | decide)⟩), trivial⟩, hS.F ht⟩) hS.2.2 dX7_holds_35
  have f1 := (show 0 ≤ p1.toInt from z_nlt rfl rfl c1)
  have r1a : ir p1.toInt 0 2147483647 := ir_leb f1 (ir_c 0) (rg_all p1) (by decide)
  refine lv_iload_n hx hb dX7_holds_4 rfl (lv_at hl 3 rfl) ?_
  refine lv_if_lt (tgt := 34) hx hb dX7_holds_5 (by decide) (fun c5 => ?_) (fun c5 => ?_)
  · have f5 := (show p2.toInt < 0 from z_lt rfl rfl c5)
    have r5a : ir p2.toInt (-2147483648) (-1) := ir_lta f5 (rg_all p2) (ir_c 0) (by decide)
    refine lv_iconst (v := 0) hx hb dX7_holds_34 (by decide) ?_
    subst hQ
    exact W.zret (v := 0) hx hb hr rfl (fun t ht hW => ⟨⟨0, (), rfl, (Or.inr ⟨rfl, (by first | omega | decide)⟩), trivial⟩, hS.F ht⟩) hS.2.2 dX7_holds_35
  have f5 := (show 0 ≤ p2.toInt from z_nlt rfl rfl c5)
  have r5a : ir p2.toInt 0 2147483647 := ir_leb f5 (ir_c 0) (rg_all p2) (by decide)
  refine lv_iload_n hx hb dX7_holds_8 rfl (lv_at hl 2 rfl) ?_
  refine lv_aload_n hx hb dX7_holds_9 rfl (lv_at hl 0 rfl) ?_
  refine va_get (D := g) (ci := 7) (v := .ref sl_size) (C := RX7) (T := TX7) (N := 3) hx hb hts iX7 hown hK hP 0 rfl rfl 1 (by decide) (hts (.fieldLink RX7 15 "CardsAtYule$Slots" "size" "[I") (List.mem_cons_of_mem _ (List.mem_append_left _ (List.mem_of_getElem? (i := 0) rfl)))) (fun _ h9 => h9) rfl dX7_holds_10 ?_
  refine lv_iload_n hx hb dX7_holds_13 rfl (lv_at hl 1 rfl) ?_
  refine va_iald (D := g) hx hb hK hP 1 0 rfl rfl (vi_rg rfl hv_p0 (by decide) (by decide)) dX7_holds_14 ?_
  have r14 : ir (sl_size_c p0.toNatClampNeg).toInt (-1) 60 := ha_sl_size_c _ (vi_cl (vi_rg rfl hv_p0 (by decide) (by decide)))
  refine lv_icmp_gt (tgt := 34) hx hb dX7_holds_15 (by decide) (fun c15 => ?_) (fun c15 => ?_)
  · have f15 := (show (sl_size_c p0.toNatClampNeg).toInt < p1.toInt from z_lt rfl rfl c15)
    refine lv_iconst (v := 0) hx hb dX7_holds_34 (by decide) ?_
    subst hQ
    exact W.zret (v := 0) hx hb hr rfl (fun t ht hW => ⟨⟨0, (), rfl, (Or.inr ⟨rfl, (by first | omega | decide)⟩), trivial⟩, hS.F ht⟩) hS.2.2 dX7_holds_35
  have f15 := (show p1.toInt ≤ (sl_size_c p0.toNatClampNeg).toInt from z_nlt rfl rfl c15)
  have r15a : ir p1.toInt 0 60 := ir_lea f15 r1a r14 (by decide)
  have r15b : ir (sl_size_c p0.toNatClampNeg).toInt 0 60 := ir_leb f15 r1a r14 (by decide)
  refine lv_iload_n hx hb dX7_holds_18 rfl (lv_at hl 3 rfl) ?_
  refine lv_aload_n hx hb dX7_holds_19 rfl (lv_at hl 0 rfl) ?_
  refine va_get (D := g) (ci := 7) (v := .ref sl_size) (C := RX7) (T := TX7) (N := 3) hx hb hts iX7 hown hK hP 0 rfl rfl 1 (by decide) (hts (.fieldLink RX7 15 "CardsAtYule$Slots" "size" "[I") (List.mem_cons_of_mem _ (List.mem_append_left _ (List.mem_of_getElem? (i := 0) rfl)))) (fun _ h9 => h9) rfl dX7_holds_20 ?_
  refine lv_iload_n hx hb dX7_holds_23 rfl (lv_at hl 1 rfl) ?_
  refine va_iald (D := g) hx hb hK hP 1 0 rfl rfl (vi_rg rfl hv_p0 (by decide) (by decide)) dX7_holds_24 ?_
  have r24 : ir (sl_size_c p0.toNatClampNeg).toInt (-1) 60 := ha_sl_size_c _ (vi_cl (vi_rg rfl hv_p0 (by decide) (by decide)))
  refine lv_iload_n hx hb dX7_holds_25 rfl (lv_at hl 2 rfl) ?_
  refine lv_isub hx hb dX7_holds_26 ?_
  refine lv_topi (fun y26 e26 => ?_)
  have q26 : y26.toInt = (sl_size_c p0.toNatClampNeg).toInt - p1.toInt := by rw [e26]; exact su_z rfl rfl r24 r15a (by decide) (by decide)
  have r26 : ir y26.toInt (-61) 60 := su_r q26 r24 r15a (by decide) (by decide)
  refine lv_icmp_gt (tgt := 34) hx hb dX7_holds_27 (by decide) (fun c27 => ?_) (fun c27 => ?_)
  · have f27 := (show y26.toInt < p2.toInt from z_lt rfl rfl c27)
    refine lv_iconst (v := 0) hx hb dX7_holds_34 (by decide) ?_
    subst hQ
    exact W.zret (v := 0) hx hb hr rfl (fun t ht hW => ⟨⟨0, (), rfl, (Or.inr ⟨rfl, (by first | omega | decide)⟩), trivial⟩, hS.F ht⟩) hS.2.2 dX7_holds_35
  have f27 := (show p2.toInt ≤ y26.toInt from z_nlt rfl rfl c27)
  have r27a : ir p2.toInt 0 60 := ir_lea f27 r5a r26 (by decide)
  have r27b : ir y26.toInt 0 60 := ir_leb f27 r5a r26 (by decide)
  refine lv_iconst (v := 1) hx hb dX7_holds_30 (by decide) ?_
  refine lv_goto (tgt := 35) hx hb dX7_holds_31 (by decide) ?_
  subst hQ
  exact W.zret (v := 1) hx hb hr rfl (fun t ht hW => ⟨⟨1, (), rfl, (Or.inl ⟨rfl, (by first | omega | decide), (by first | omega | decide), (by first | omega | decide), (by first | omega | decide)⟩), trivial⟩, hS.F ht⟩) hS.2.2 dX7_holds_35
def v_X11_rowF : List Cond := .code yX11_row cX11_row 4 (some .int) :: (([.methodLink RX11 148 yX11_isBelow, .static yX11_isBelow, .initialized RX11, .fieldLink RX11 65 "CardsAtYule" "slots" "LCardsAtYule$Slots;", .methodLink RX11 391 yX7_lay, .instanceMethod yX7_lay, .selects RX7 yX7_lay yX7_lay, .initialized RX7] : List Cond) ++ (v_X11_isBelowN ++ (v_X7_layF ++ (wsX110 ++ ([] : List Cond)))))
theorem good_v_X11_rowF : v_X11_rowF.all goodWord = true := ga_c (by decide +kernel) (ga_a (by decide +kernel) (ga_a good_v_X11_isBelowN (ga_a good_v_X7_layF (ga_a good_wsX110 rfl))))
set_option maxHeartbeats 4000000 in
set_option maxRecDepth 100000 in
theorem q_X11_rowF (l : Launch) (g : va_G) (cI cJ cB cZ cL : ClassId) (p0 : Int32) (p1 : Int32) (p2 : Int32) (x : Nat) (x_tape : Nat) (x_land : Nat) (x_images : Nat) (x_book : Nat) (x_course : Nat) (x_fates : Nat) (x_chances : Nat) (x_will : Nat) (x_slots : Nat) (x_seen : Nat) (x_drawn : Nat) (x_slots_width : Nat) (x_slots_size : Nat) (x_slots_numbers : Nat) (x_slots_width_c : Nat → Int32) (x_slots_size_c : Nat → Int32) (x_slots_numbers_c : Nat → Int64) (sz : Nat) (ha_x_slots_size_c : ar x_slots_size_c 4 (-1) 60) : Met l yX11_row v_X11_rowF ({ frames := 1, cells := 0, slots := 0, locals := 24 }) (va_Pc [.ref x, .int p0, .int p1, .int p2] (pRW g (tyT cI cJ cB cZ cL) [(x, .inr (10, [.ref x_tape, .ref x_land, .ref x_images, .ref x_book, .ref x_course, .ref x_fates, .ref x_chances, .ref x_will, .ref x_slots, .ref x_seen, .ref x_drawn])), (x_slots, .inr (7, [.ref x_slots_width, .ref x_slots_size, .ref x_slots_numbers])), (x_slots_width, .inl (cI, 4, .inl x_slots_width_c)), (x_slots_size, .inl (cI, 4, .inl x_slots_size_c)), (x_slots_numbers, .inl (cJ, 240, .inr (.inl x_slots_numbers_c)))] sz)) (va_Qi (fun (r : Int32) (u : (Nat → Int32) × (Nat → Int32) × (Nat → Int64)) => match u with | (n_x_slots_width_c, n_x_slots_size_c, n_x_slots_numbers_c) => (ar n_x_slots_size_c 4 (-1) 60) ∧ (r = rowV p0 p1 p2) ∧ (n_x_slots_width_c = rowU p0 p1 p2 x_slots_width_c p1) ∧ (n_x_slots_size_c = rowU p0 p1 p2 x_slots_size_c p2) ∧ (ir r.toInt (-3) 0)) (fun (u : (Nat → Int32) × (Nat → Int32) × (Nat → Int64)) (t : State) => bRW g (tyT cI cJ cB cZ cL) (va_A [(x, .inr (10, [.ref x_tape, .ref x_land, .ref x_images, .ref x_book, .ref x_course, .ref x_fates, .ref x_chances, .ref x_will, .ref x_slots, .ref x_seen, .ref x_drawn])), (x_slots, .inr (7, [.ref x_slots_width, .ref x_slots_size, .ref x_slots_numbers])), (x_slots_width, .inl (cI, 4, .inl x_slots_width_c)), (x_slots_size, .inl (cI, 4, .inl x_slots_size_c)), (x_slots_numbers, .inl (cJ, 240, .inr (.inl x_slots_numbers_c)))] sz) (match u with | (n_x_slots_width_c, n_x_slots_size_c, n_x_slots_numbers_c) => [(x, .inr (10, [.ref x_tape, .ref x_land, .ref x_images, .ref x_book, .ref x_course, .ref x_fates, .ref x_chances, .ref x_will, .ref x_slots, .ref x_seen, .ref x_drawn])), (x_slots, .inr (7, [.ref x_slots_width, .ref x_slots_size, .ref x_slots_numbers])), (x_slots_width, .inl (cI, 4, .inl n_x_slots_width_c)), (x_slots_size, .inl (cI, 4, .inl n_x_slots_size_c)), (x_slots_numbers, .inl (cJ, 240, .inr (.inl n_x_slots_numbers_c)))]) t) (va_A [(x, .inr (10, [.ref x_tape, .ref x_land, .ref x_images, .ref x_book, .ref x_course, .ref x_fates, .ref x_chances, .ref x_will, .ref x_slots, .ref x_seen, .ref x_drawn])), (x_slots, .inr (7, [.ref x_slots_width, .ref x_slots_size, .ref x_slots_numbers])), (x_slots_width, .inl (cI, 4, .inl x_slots_width_c)), (x_slots_size, .inl (cI, 4, .inl x_slots_size_c)), (x_slots_numbers, .inl (cJ, 240, .inr (.inl x_slots_numbers_c)))] sz)) 0 0 (va_A [(x, .inr (10, [.ref x_tape, .ref x_land, .ref x_images, .ref x_book, .ref x_course, .ref x_fates, .ref x_chances, .ref x_will, .ref x_slots, .ref x_seen, .ref x_drawn])), (x_slots, .inr (7, [.ref x_slots_width, .ref x_slots_size, .ref x_slots_numbers])), (x_slots_width, .inl (cI, 4, .inl x_slots_width_c)), (x_slots_size, .inl (cI, 4, .inl x_slots_size_c)), (x_slots_numbers, .inl (cJ, 240, .inr (.inl x_slots_numbers_c)))] sz) := by
  refine Met.ofW (cc := cX11_row) (maxL := 4) (ret := (some .int)) (by decide) rfl ?_
  intro p e s m args below meth c s₁ B hml hv
  obtain ⟨rfl, hsz, hP, hK, hD0⟩ := hv
  have hx := B.exec
  have hb := B.bytes
  have hr := B.returns
  have hts := atoms_spec (ws := v_X11_rowF) B.pre
  have hown : s.vm.findClass RX11 = some m.cls := findClass_of_methodNamed B.named
  have hlocks := B.notSynchronized
  clear B
  subst hsz
  have iX11 : ∀ w ∈ wsX110, w ∈ v_X11_rowF := (fun _ h => List.mem_cons_of_mem _ (List.mem_append_right _ (List.mem_append_right _ (List.mem_append_right _ (List.mem_append_left _ h)))))
  have hD := hD0.self (sz := s.heap.size)
  generalize hAe : (va_A [(x, .inr (10, [.ref x_tape, .ref x_land, .ref x_images, .ref x_book, .ref x_course, .ref x_fates, .ref x_chances, .ref x_will, .ref x_slots, .ref x_seen, .ref x_drawn])), (x_slots, .inr (7, [.ref x_slots_width, .ref x_slots_size, .ref x_slots_numbers])), (x_slots_width, .inl (cI, 4, .inl x_slots_width_c)), (x_slots_size, .inl (cI, 4, .inl x_slots_size_c)), (x_slots_numbers, .inl (cJ, 240, .inr (.inl x_slots_numbers_c)))] s.heap.size) = A at hD ⊢
  have hA : ∀ q : Nat, s.heap.size ≤ q → A q := fun q h => by rw [← hAe]; exact Or.inr h
  have hS : va_S A s.heap s.heap [] := va_S.rf
  have hl := lv_entry ([.ref x, .int p0, .int p1, .int p2]) (n := 4) (Nat.le_of_ble_eq_true rfl)
  rw [lg_entry_eq]
  generalize (lg_sl ([.ref x, .int p0, .int p1, .int p2]) ++ List.replicate (4 - (lg_sl ([.ref x, .int p0, .int p1, .int p2])).length) Slot.unset).toArray = ls at hl ⊢
  generalize ([.ref x, .int p0, .int p1, .int p2] : List Value).toArray = av at hts ⊢
  generalize hQ : MQ below _ av s _ _ A = QQ
  have hl : lv_has ls 4 [(0, .ref x), (1, .int p0), (2, .int p1), (3, .int p2)] := hl
  have hP : va_P g vwCl [(x, .inr (10, [.ref x_tape, .ref x_land, .ref x_images, .ref x_book, .ref x_course, .ref x_fates, .ref x_chances, .ref x_will, .ref x_slots, .ref x_seen, .ref x_drawn])), (x_slots, .inr (7, [.ref x_slots_width, .ref x_slots_size, .ref x_slots_numbers])), (x_slots_width, .inl (cI, 4, .inl x_slots_width_c)), (x_slots_size, .inl (cI, 4, .inl x_slots_size_c)), (x_slots_numbers, .inl (cJ, 240, .inr (.inl x_slots_numbers_c)))] s.heap := hP
  refine lv_iload_n hx hb dX11_row_0 rfl (lv_at hl 1 rfl) ?_
  refine lv_iconst (v := 4) hx hb dX11_row_1 (by decide) ?_
  refine ro_i (va_runS (As := [.int p0, .int 4]) (rest := []) ⟨hx, hb, hml, hown, hts⟩ (q_X11_isBelowN l g cI cJ cB cZ cL p0 4 s.heap.size ) (va_cwS 2 hts (goodIn_app (g_3 (List.mem_cons_of_mem _ (List.mem_append_left _ (List.mem_of_getElem? (i := 0) rfl))) (List.mem_cons_of_mem _ (List.mem_append_left _ (List.mem_of_getElem? (i := 1) rfl))) (List.mem_cons_of_mem _ (List.mem_append_left _ (List.mem_of_getElem? (i := 2) rfl))) (by decide +kernel)) (goodIn_sub (fun _ h => List.mem_cons_of_mem _ (List.mem_append_right _ (List.mem_append_left _ h))) good_v_X11_isBelowN)) rfl rfl rfl (by decide +kernel) ⟨Nat.le_of_ble_eq_true rfl, Nat.le_of_ble_eq_true rfl⟩) (ps_RO (wc := []) hK hP [] rfl) rfl rfl hl.1 rfl (lv_room (Nat.le_of_ble_eq_true rfl)) dX11_row_2 ⟨Nat.le_of_ble_eq_true rfl, Nat.le_of_ble_eq_true rfl⟩) hS hA hP (fun r2 u2 H locs hw2 hP hS => ?_)
  have hw2_0 := hw2
  rcases hw2_0 with ⟨er2, fc2_0, fc2_1⟩ | ⟨er2, fc2_0⟩
  rotate_left 1
  · subst er2
    have fc2_0 : ¬ (0 ≤ p0.toInt ∧ p0.toInt < 4) := fc2_0
    refine lv_if_eq (tgt := 22) hx hb dX11_row_5 (by decide) (fun _ => ?_) (fun c => absurd c (by decide))
    refine lv_bipush (v := (-2)) hx hb dX11_row_22 (by decide) ?_
    subst hQ
    have hP9 := hP.sub (ws' := [(x, .inr (10, [.ref x_tape, .ref x_land, .ref x_images, .ref x_book, .ref x_course, .ref x_fates, .ref x_chances, .ref x_will, .ref x_slots, .ref x_seen, .ref x_drawn])), (x_slots, .inr (7, [.ref x_slots_width, .ref x_slots_size, .ref x_slots_numbers])), (x_slots_width, .inl (cI, 4, .inl x_slots_width_c)), (x_slots_size, .inl (cI, 4, .inl x_slots_size_c)), (x_slots_numbers, .inl (cJ, 240, .inr (.inl x_slots_numbers_c)))]) [0, 1, 2, 3, 4] rfl
    have hD9 := hD.sub (ws' := [(x, .inr (10, [.ref x_tape, .ref x_land, .ref x_images, .ref x_book, .ref x_course, .ref x_fates, .ref x_chances, .ref x_will, .ref x_slots, .ref x_seen, .ref x_drawn])), (x_slots, .inr (7, [.ref x_slots_width, .ref x_slots_size, .ref x_slots_numbers])), (x_slots_width, .inl (cI, 4, .inl x_slots_width_c)), (x_slots_size, .inl (cI, 4, .inl x_slots_size_c)), (x_slots_numbers, .inl (cJ, 240, .inr (.inl x_slots_numbers_c)))]) [0, 1, 2, 3, 4] (by decide) rfl
    exact W.iret (v := (-2)) hx hb hr (fun t ht hW => ⟨⟨(-2), (x_slots_width_c, x_slots_size_c, x_slots_numbers_c), rfl, ⟨ha_x_slots_size_c, (by unfold rowV; first | (rw [if_neg (by omega)]; done) | (rw [if_pos (by omega), if_pos (by omega)]; done) | (rw [if_pos (by omega), if_neg (by omega)]; done)), (by unfold rowU; first | (rw [if_neg (by omega)]; done) | (rw [if_pos (by omega)]; assumption)), (by unfold rowU; first | (rw [if_neg (by omega)]; done) | (rw [if_pos (by omega)]; assumption)), (show ir ((-2) : Int32).toInt (-3) 0 by decide)⟩, ⟨by rw [ht]; exact hP9, va_K.moved hW.alike hK, hD9⟩⟩, hS.F ht⟩) hS.2.2 dX11_row_24
  subst er2
  have fc2_0 : 0 ≤ p0.toInt := fc2_0
  have r2_0b : ir p0.toInt 0 2147483647 := ir_leb fc2_0 (ir_c 0) (rg_all p0) (by decide)
  have fc2_1 : p0.toInt < 4 := fc2_1
  have r2_1a : ir p0.toInt 0 3 := ir_lta fc2_1 r2_0b (ir_c 4) (by decide)
  refine lv_if_eq (tgt := 22) hx hb dX11_row_5 (by decide) (fun c => absurd c (by decide)) (fun _ => ?_)
  refine lv_iload_n hx hb dX11_row_8 rfl (lv_at hl 2 rfl) ?_
  refine lv_iconst (v := 4) hx hb dX11_row_9 (by decide) ?_
  refine ro_i (va_runS (As := [.int p1, .int 4]) (rest := []) ⟨hx, hb, hml, hown, hts⟩ (q_X11_isBelowN l g cI cJ cB cZ cL p1 4 H.size ) (va_cwS 2 hts (goodIn_app (g_3 (List.mem_cons_of_mem _ (List.mem_append_left _ (List.mem_of_getElem? (i := 0) rfl))) (List.mem_cons_of_mem _ (List.mem_append_left _ (List.mem_of_getElem? (i := 1) rfl))) (List.mem_cons_of_mem _ (List.mem_append_left _ (List.mem_of_getElem? (i := 2) rfl))) (by decide +kernel)) (goodIn_sub (fun _ h => List.mem_cons_of_mem _ (List.mem_append_right _ (List.mem_append_left _ h))) good_v_X11_isBelowN)) rfl rfl rfl (by decide +kernel) ⟨Nat.le_of_ble_eq_true rfl, Nat.le_of_ble_eq_true rfl⟩) (ps_RO (wc := []) hK hP [] rfl) rfl rfl hl.1 rfl (lv_room (Nat.le_of_ble_eq_true rfl)) dX11_row_10 ⟨Nat.le_of_ble_eq_true rfl, Nat.le_of_ble_eq_true rfl⟩) hS hA hP (fun r10 u10 H locs hw10 hP hS => ?_)
  have hw10_0 := hw10
  rcases hw10_0 with ⟨er10, fc10_0, fc10_1⟩ | ⟨er10, fc10_0⟩
  rotate_left 1
  · subst er10
    have fc10_0 : ¬ (0 ≤ p1.toInt ∧ p1.toInt < 4) := fc10_0
    refine lv_if_eq (tgt := 22) hx hb dX11_row_13 (by decide) (fun _ => ?_) (fun c => absurd c (by decide))
    refine lv_bipush (v := (-2)) hx hb dX11_row_22 (by decide) ?_
    subst hQ
    have hP9 := hP.sub (ws' := [(x, .inr (10, [.ref x_tape, .ref x_land, .ref x_images, .ref x_book, .ref x_course, .ref x_fates, .ref x_chances, .ref x_will, .ref x_slots, .ref x_seen, .ref x_drawn])), (x_slots, .inr (7, [.ref x_slots_width, .ref x_slots_size, .ref x_slots_numbers])), (x_slots_width, .inl (cI, 4, .inl x_slots_width_c)), (x_slots_size, .inl (cI, 4, .inl x_slots_size_c)), (x_slots_numbers, .inl (cJ, 240, .inr (.inl x_slots_numbers_c)))]) [0, 1, 2, 3, 4] rfl
    have hD9 := hD.sub (ws' := [(x, .inr (10, [.ref x_tape, .ref x_land, .ref x_images, .ref x_book, .ref x_course, .ref x_fates, .ref x_chances, .ref x_will, .ref x_slots, .ref x_seen, .ref x_drawn])), (x_slots, .inr (7, [.ref x_slots_width, .ref x_slots_size, .ref x_slots_numbers])), (x_slots_width, .inl (cI, 4, .inl x_slots_width_c)), (x_slots_size, .inl (cI, 4, .inl x_slots_size_c)), (x_slots_numbers, .inl (cJ, 240, .inr (.inl x_slots_numbers_c)))]) [0, 1, 2, 3, 4] (by decide) rfl
    exact W.iret (v := (-2)) hx hb hr (fun t ht hW => ⟨⟨(-2), (x_slots_width_c, x_slots_size_c, x_slots_numbers_c), rfl, ⟨ha_x_slots_size_c, (by unfold rowV; first | (rw [if_neg (by omega)]; done) | (rw [if_pos (by omega), if_pos (by omega)]; done) | (rw [if_pos (by omega), if_neg (by omega)]; done)), (by unfold rowU; first | (rw [if_neg (by omega)]; done) | (rw [if_pos (by omega)]; assumption)), (by unfold rowU; first | (rw [if_neg (by omega)]; done) | (rw [if_pos (by omega)]; assumption)), (show ir ((-2) : Int32).toInt (-3) 0 by decide)⟩, ⟨by rw [ht]; exact hP9, va_K.moved hW.alike hK, hD9⟩⟩, hS.F ht⟩) hS.2.2 dX11_row_24
  subst er10
  have fc10_0 : 0 ≤ p1.toInt := fc10_0
  have r10_0b : ir p1.toInt 0 2147483647 := ir_leb fc10_0 (ir_c 0) (rg_all p1) (by decide)
  have fc10_1 : p1.toInt < 4 := fc10_1
  have r10_1a : ir p1.toInt 0 3 := ir_lta fc10_1 r10_0b (ir_c 4) (by decide)
  refine lv_if_eq (tgt := 22) hx hb dX11_row_13 (by decide) (fun c => absurd c (by decide)) (fun _ => ?_)
  refine lv_iload_n hx hb dX11_row_16 rfl (lv_at hl 3 rfl) ?_
  refine lv_bipush (v := 60) hx hb dX11_row_17 (by decide) ?_
  refine lv_icmp_le (tgt := 25) hx hb dX11_row_19 (by decide) (fun c19 => ?_) (fun c19 => ?_)
  rotate_left 1
  · have f19 := (show 60 < p2.toInt from z_nle rfl rfl c19)
    have r19a : ir p2.toInt 61 2147483647 := ir_ltb f19 (ir_c 60) (rg_all p2) (by decide)
    refine lv_bipush (v := (-2)) hx hb dX11_row_22 (by decide) ?_
    subst hQ
    have hP9 := hP.sub (ws' := [(x, .inr (10, [.ref x_tape, .ref x_land, .ref x_images, .ref x_book, .ref x_course, .ref x_fates, .ref x_chances, .ref x_will, .ref x_slots, .ref x_seen, .ref x_drawn])), (x_slots, .inr (7, [.ref x_slots_width, .ref x_slots_size, .ref x_slots_numbers])), (x_slots_width, .inl (cI, 4, .inl x_slots_width_c)), (x_slots_size, .inl (cI, 4, .inl x_slots_size_c)), (x_slots_numbers, .inl (cJ, 240, .inr (.inl x_slots_numbers_c)))]) [0, 1, 2, 3, 4] rfl
    have hD9 := hD.sub (ws' := [(x, .inr (10, [.ref x_tape, .ref x_land, .ref x_images, .ref x_book, .ref x_course, .ref x_fates, .ref x_chances, .ref x_will, .ref x_slots, .ref x_seen, .ref x_drawn])), (x_slots, .inr (7, [.ref x_slots_width, .ref x_slots_size, .ref x_slots_numbers])), (x_slots_width, .inl (cI, 4, .inl x_slots_width_c)), (x_slots_size, .inl (cI, 4, .inl x_slots_size_c)), (x_slots_numbers, .inl (cJ, 240, .inr (.inl x_slots_numbers_c)))]) [0, 1, 2, 3, 4] (by decide) rfl
    exact W.iret (v := (-2)) hx hb hr (fun t ht hW => ⟨⟨(-2), (x_slots_width_c, x_slots_size_c, x_slots_numbers_c), rfl, ⟨ha_x_slots_size_c, (by unfold rowV; first | (rw [if_neg (by omega)]; done) | (rw [if_pos (by omega), if_pos (by omega)]; done) | (rw [if_pos (by omega), if_neg (by omega)]; done)), (by unfold rowU; first | (rw [if_neg (by omega)]; done) | (rw [if_pos (by omega)]; assumption)), (by unfold rowU; first | (rw [if_neg (by omega)]; done) | (rw [if_pos (by omega)]; assumption)), (show ir ((-2) : Int32).toInt (-3) 0 by decide)⟩, ⟨by rw [ht]; exact hP9, va_K.moved hW.alike hK, hD9⟩⟩, hS.F ht⟩) hS.2.2 dX11_row_24
  have f19 := (show p2.toInt ≤ 60 from z_le rfl rfl c19)
  have r19a : ir p2.toInt (-2147483648) 60 := ir_lea f19 (rg_all p2) (ir_c 60) (by decide)
  refine lv_iload_n hx hb dX11_row_25 rfl (lv_at hl 3 rfl) ?_
  refine lv_if_ge (tgt := 32) hx hb dX11_row_26 (by decide) (fun c26 => ?_) (fun c26 => ?_)
  rotate_left 1
  · have f26 := (show p2.toInt < 0 from z_nle rfl rfl c26)
    have r26a : ir p2.toInt (-2147483648) (-1) := ir_lta f26 r19a (ir_c 0) (by decide)
    refine lv_bipush (v := (-3)) hx hb dX11_row_29 (by decide) ?_
    subst hQ
    have hP9 := hP.sub (ws' := [(x, .inr (10, [.ref x_tape, .ref x_land, .ref x_images, .ref x_book, .ref x_course, .ref x_fates, .ref x_chances, .ref x_will, .ref x_slots, .ref x_seen, .ref x_drawn])), (x_slots, .inr (7, [.ref x_slots_width, .ref x_slots_size, .ref x_slots_numbers])), (x_slots_width, .inl (cI, 4, .inl x_slots_width_c)), (x_slots_size, .inl (cI, 4, .inl x_slots_size_c)), (x_slots_numbers, .inl (cJ, 240, .inr (.inl x_slots_numbers_c)))]) [0, 1, 2, 3, 4] rfl
    have hD9 := hD.sub (ws' := [(x, .inr (10, [.ref x_tape, .ref x_land, .ref x_images, .ref x_book, .ref x_course, .ref x_fates, .ref x_chances, .ref x_will, .ref x_slots, .ref x_seen, .ref x_drawn])), (x_slots, .inr (7, [.ref x_slots_width, .ref x_slots_size, .ref x_slots_numbers])), (x_slots_width, .inl (cI, 4, .inl x_slots_width_c)), (x_slots_size, .inl (cI, 4, .inl x_slots_size_c)), (x_slots_numbers, .inl (cJ, 240, .inr (.inl x_slots_numbers_c)))]) [0, 1, 2, 3, 4] (by decide) rfl
    exact W.iret (v := (-3)) hx hb hr (fun t ht hW => ⟨⟨(-3), (x_slots_width_c, x_slots_size_c, x_slots_numbers_c), rfl, ⟨ha_x_slots_size_c, (by unfold rowV; first | (rw [if_neg (by omega)]; done) | (rw [if_pos (by omega), if_pos (by omega)]; done) | (rw [if_pos (by omega), if_neg (by omega)]; done)), (by unfold rowU; first | (rw [if_neg (by omega)]; done) | (rw [if_pos (by omega)]; assumption)), (by unfold rowU; first | (rw [if_neg (by omega)]; done) | (rw [if_pos (by omega)]; assumption)), (show ir ((-3) : Int32).toInt (-3) 0 by decide)⟩, ⟨by rw [ht]; exact hP9, va_K.moved hW.alike hK, hD9⟩⟩, hS.F ht⟩) hS.2.2 dX11_row_31
  have f26 := (show 0 ≤ p2.toInt from z_le rfl rfl c26)
  have r26a : ir p2.toInt 0 60 := ir_leb f26 (ir_c 0) r19a (by decide)
  refine lv_aload_n hx hb dX11_row_32 rfl (lv_at hl 0 rfl) ?_
  refine va_get (D := g) (ci := 10) (v := .ref x_slots) (C := RX11) (T := TX11) (N := 11) hx hb hts iX11 hown hK hP 0 rfl rfl 8 (by decide) (hts (.fieldLink RX11 65 "CardsAtYule" "slots" "LCardsAtYule$Slots;") (List.mem_cons_of_mem _ (List.mem_append_left _ (List.mem_of_getElem? (i := 3) rfl)))) (fun _ h9 => h9) rfl dX11_row_33 ?_
  refine lv_iload_n hx hb dX11_row_36 rfl (lv_at hl 1 rfl) ?_
  refine lv_iload_n hx hb dX11_row_37 rfl (lv_at hl 2 rfl) ?_
  refine lv_iload_n hx hb dX11_row_38 rfl (lv_at hl 3 rfl) ?_
  refine rw_v (wr := [(x, .inr (10, [.ref x_tape, .ref x_land, .ref x_images, .ref x_book, .ref x_course, .ref x_fates, .ref x_chances, .ref x_will, .ref x_slots, .ref x_seen, .ref x_drawn]))]) (va_runV (As := [.int p0, .int p1, .int p2]) (rest := []) ⟨hx, hb, hml, hown, hts⟩ (q_X7_layF l g cI cJ cB cZ cL p0 p1 p2 x_slots x_slots_width x_slots_size x_slots_numbers x_slots_width_c x_slots_size_c x_slots_numbers_c H.size r2_1a r26a ha_x_slots_size_c) (cwV 3 hts (goodIn_app (g_4 (List.mem_cons_of_mem _ (List.mem_append_left _ (List.mem_of_getElem? (i := 4) rfl))) (List.mem_cons_of_mem _ (List.mem_append_left _ (List.mem_of_getElem? (i := 5) rfl))) (List.mem_cons_of_mem _ (List.mem_append_left _ (List.mem_of_getElem? (i := 6) rfl))) (List.mem_cons_of_mem _ (List.mem_append_left _ (List.mem_of_getElem? (i := 7) rfl))) (by decide +kernel)) (goodIn_sub (fun _ h => List.mem_cons_of_mem _ (List.mem_append_right _ (List.mem_append_right _ (List.mem_append_left _ h)))) good_v_X7_layF)) rfl rfl rfl (by decide +kernel) ⟨Nat.le_of_ble_eq_true rfl, Nat.le_of_ble_eq_true rfl⟩) (pv_RW (q := (RX7, TX7, 3)) (ci := 7) (q0 := 0) (wc := [(x_slots, .inr (7, [.ref x_slots_width, .ref x_slots_size, .ref x_slots_numbers])), (x_slots_width, .inl (cI, 4, .inl x_slots_width_c)), (x_slots_size, .inl (cI, 4, .inl x_slots_size_c)), (x_slots_numbers, .inl (cJ, 240, .inr (.inl x_slots_numbers_c)))]) hK hP hD [1, 2, 3, 4] (by decide) rfl rfl rfl) rfl rfl hl.1 rfl (lv_room (Nat.le_of_ble_eq_true rfl)) dX11_row_39 ⟨Nat.le_of_ble_eq_true rfl, Nat.le_of_ble_eq_true rfl⟩) hS hA hP hD [1, 2, 3, 4] [0] rfl rfl (by decide) (by decide) (fun u39 H locs hw39 hP hD hS => ?_)
  obtain ⟨n_sl_width_c_39, n_sl_size_c_39, n_sl_numbers_c_39⟩ := u39
  have hP : va_P g vwCl [(x, .inr (10, [.ref x_tape, .ref x_land, .ref x_images, .ref x_book, .ref x_course, .ref x_fates, .ref x_chances, .ref x_will, .ref x_slots, .ref x_seen, .ref x_drawn])), (x_slots, .inr (7, [.ref x_slots_width, .ref x_slots_size, .ref x_slots_numbers])), (x_slots_width, .inl (cI, 4, .inl n_sl_width_c_39)), (x_slots_size, .inl (cI, 4, .inl n_sl_size_c_39)), (x_slots_numbers, .inl (cJ, 240, .inr (.inl n_sl_numbers_c_39)))] H := hP
  have hD : va_D A [(x, .inr (10, [.ref x_tape, .ref x_land, .ref x_images, .ref x_book, .ref x_course, .ref x_fates, .ref x_chances, .ref x_will, .ref x_slots, .ref x_seen, .ref x_drawn])), (x_slots, .inr (7, [.ref x_slots_width, .ref x_slots_size, .ref x_slots_numbers])), (x_slots_width, .inl (cI, 4, .inl n_sl_width_c_39)), (x_slots_size, .inl (cI, 4, .inl n_sl_size_c_39)), (x_slots_numbers, .inl (cJ, 240, .inr (.inl n_sl_numbers_c_39)))] := hD
  dsimp only at hw39
  obtain ⟨hw39_0, hw39_1, hw39_2⟩ := hw39
  refine lv_iconst (v := 0) hx hb dX11_row_42 (by decide) ?_
  subst hQ
  have hP9 := hP.sub (ws' := [(x, .inr (10, [.ref x_tape, .ref x_land, .ref x_images, .ref x_book, .ref x_course, .ref x_fates, .ref x_chances, .ref x_will, .ref x_slots, .ref x_seen, .ref x_drawn])), (x_slots, .inr (7, [.ref x_slots_width, .ref x_slots_size, .ref x_slots_numbers])), (x_slots_width, .inl (cI, 4, .inl n_sl_width_c_39)), (x_slots_size, .inl (cI, 4, .inl n_sl_size_c_39)), (x_slots_numbers, .inl (cJ, 240, .inr (.inl n_sl_numbers_c_39)))]) [0, 1, 2, 3, 4] rfl
  have hD9 := hD.sub (ws' := [(x, .inr (10, [.ref x_tape, .ref x_land, .ref x_images, .ref x_book, .ref x_course, .ref x_fates, .ref x_chances, .ref x_will, .ref x_slots, .ref x_seen, .ref x_drawn])), (x_slots, .inr (7, [.ref x_slots_width, .ref x_slots_size, .ref x_slots_numbers])), (x_slots_width, .inl (cI, 4, .inl n_sl_width_c_39)), (x_slots_size, .inl (cI, 4, .inl n_sl_size_c_39)), (x_slots_numbers, .inl (cJ, 240, .inr (.inl n_sl_numbers_c_39)))]) [0, 1, 2, 3, 4] (by decide) rfl
  exact W.iret (v := 0) hx hb hr (fun t ht hW => ⟨⟨0, (n_sl_width_c_39, n_sl_size_c_39, n_sl_numbers_c_39), rfl, ⟨hw39_0, (by unfold rowV; first | (rw [if_neg (by omega)]; done) | (rw [if_pos (by omega), if_pos (by omega)]; done) | (rw [if_pos (by omega), if_neg (by omega)]; done)), (by unfold rowU; first | (rw [if_neg (by omega)]; done) | (rw [if_pos (by omega)]; assumption)), (by unfold rowU; first | (rw [if_neg (by omega)]; done) | (rw [if_pos (by omega)]; assumption)), (show ir (0 : Int32).toInt (-3) 0 by decide)⟩, ⟨by rw [ht]; exact hP9, va_K.moved hW.alike hK, hD9⟩⟩, hS.F ht⟩) hS.2.2 dX11_row_43
def v_X11_writeF : List Cond := .code yX11_write cX11_write 5 (some .int) :: (([.methodLink RX11 148 yX11_isBelow, .static yX11_isBelow, .initialized RX11, .fieldLink RX11 65 "CardsAtYule" "slots" "LCardsAtYule$Slots;", .methodLink RX11 394 yX7_has, .instanceMethod yX7_has, .selects RX7 yX7_has yX7_has, .initialized RX7, .fieldLink RX11 339 "CardsAtYule$Slots" "size" "[I", .methodLink RX11 397 yX7_put, .instanceMethod yX7_put, .selects RX7 yX7_put yX7_put] : List Cond) ++ (v_X11_isBelowN ++ (v_X7_hasF ++ (v_X7_put ++ (wsX110 ++ (wsX70 ++ ([] : List Cond)))))))
theorem good_v_X11_writeF : v_X11_writeF.all goodWord = true := ga_c (by decide +kernel) (ga_a (by decide +kernel) (ga_a good_v_X11_isBelowN (ga_a good_v_X7_hasF (ga_a good_v_X7_put (ga_a good_wsX110 (ga_a good_wsX70 rfl))))))
set_option maxHeartbeats 4000000 in
set_option maxRecDepth 100000 in
theorem q_X11_writeF (l : Launch) (g : va_G) (cI cJ cB cZ cL : ClassId) (p0 : Int32) (p1 : Int32) (p2 : Int64) (x : Nat) (x_tape : Nat) (x_land : Nat) (x_images : Nat) (x_book : Nat) (x_course : Nat) (x_fates : Nat) (x_chances : Nat) (x_will : Nat) (x_slots : Nat) (x_seen : Nat) (x_drawn : Nat) (x_slots_width : Nat) (x_slots_size : Nat) (x_slots_numbers : Nat) (x_slots_size_c : Nat → Int32) (x_slots_width_c : Nat → Int32) (x_slots_numbers_c : Nat → Int64) (sz : Nat) (ha_x_slots_size_c : ar x_slots_size_c 4 (-1) 60) : Met l yX11_write v_X11_writeF ({ frames := 1, cells := 0, slots := 0, locals := 25 }) (va_Pc [.ref x, .int p0, .int p1, .long p2] (pRW g (tyT cI cJ cB cZ cL) [(x, .inr (10, [.ref x_tape, .ref x_land, .ref x_images, .ref x_book, .ref x_course, .ref x_fates, .ref x_chances, .ref x_will, .ref x_slots, .ref x_seen, .ref x_drawn])), (x_slots, .inr (7, [.ref x_slots_width, .ref x_slots_size, .ref x_slots_numbers])), (x_slots_size, .inl (cI, 4, .inl x_slots_size_c)), (x_slots_width, .inl (cI, 4, .inl x_slots_width_c)), (x_slots_numbers, .inl (cJ, 240, .inr (.inl x_slots_numbers_c)))] sz)) (va_Qi (fun (r : Int32) (u : (Nat → Int64)) => match u with | n_x_slots_numbers_c => (r = wrG p0.toInt p1.toInt (x_slots_size_c p0.toNatClampNeg).toInt (x_slots_size_c p0.toNatClampNeg).toInt) ∧ (ir r.toInt (-7) 0)) (fun (u : (Nat → Int64)) (t : State) => bRW g (tyT cI cJ cB cZ cL) (va_A [(x, .inr (10, [.ref x_tape, .ref x_land, .ref x_images, .ref x_book, .ref x_course, .ref x_fates, .ref x_chances, .ref x_will, .ref x_slots, .ref x_seen, .ref x_drawn])), (x_slots, .inr (7, [.ref x_slots_width, .ref x_slots_size, .ref x_slots_numbers])), (x_slots_size, .inl (cI, 4, .inl x_slots_size_c)), (x_slots_width, .inl (cI, 4, .inl x_slots_width_c)), (x_slots_numbers, .inl (cJ, 240, .inr (.inl x_slots_numbers_c)))] sz) (match u with | n_x_slots_numbers_c => [(x, .inr (10, [.ref x_tape, .ref x_land, .ref x_images, .ref x_book, .ref x_course, .ref x_fates, .ref x_chances, .ref x_will, .ref x_slots, .ref x_seen, .ref x_drawn])), (x_slots, .inr (7, [.ref x_slots_width, .ref x_slots_size, .ref x_slots_numbers])), (x_slots_size, .inl (cI, 4, .inl x_slots_size_c)), (x_slots_width, .inl (cI, 4, .inl x_slots_width_c)), (x_slots_numbers, .inl (cJ, 240, .inr (.inl n_x_slots_numbers_c)))]) t) (va_A [(x, .inr (10, [.ref x_tape, .ref x_land, .ref x_images, .ref x_book, .ref x_course, .ref x_fates, .ref x_chances, .ref x_will, .ref x_slots, .ref x_seen, .ref x_drawn])), (x_slots, .inr (7, [.ref x_slots_width, .ref x_slots_size, .ref x_slots_numbers])), (x_slots_size, .inl (cI, 4, .inl x_slots_size_c)), (x_slots_width, .inl (cI, 4, .inl x_slots_width_c)), (x_slots_numbers, .inl (cJ, 240, .inr (.inl x_slots_numbers_c)))] sz)) 0 0 (va_A [(x, .inr (10, [.ref x_tape, .ref x_land, .ref x_images, .ref x_book, .ref x_course, .ref x_fates, .ref x_chances, .ref x_will, .ref x_slots, .ref x_seen, .ref x_drawn])), (x_slots, .inr (7, [.ref x_slots_width, .ref x_slots_size, .ref x_slots_numbers])), (x_slots_size, .inl (cI, 4, .inl x_slots_size_c)), (x_slots_width, .inl (cI, 4, .inl x_slots_width_c)), (x_slots_numbers, .inl (cJ, 240, .inr (.inl x_slots_numbers_c)))] sz) := by
  refine Met.ofW (cc := cX11_write) (maxL := 5) (ret := (some .int)) (by decide) rfl ?_
  intro p e s m args below meth c s₁ B hml hv
  obtain ⟨rfl, hsz, hP, hK, hD0⟩ := hv
  have hx := B.exec
  have hb := B.bytes
  have hr := B.returns
  have hts := atoms_spec (ws := v_X11_writeF) B.pre
  have hown : s.vm.findClass RX11 = some m.cls := findClass_of_methodNamed B.named
  have hlocks := B.notSynchronized
  clear B
  subst hsz
  have iX11 : ∀ w ∈ wsX110, w ∈ v_X11_writeF := (fun _ h => List.mem_cons_of_mem _ (List.mem_append_right _ (List.mem_append_right _ (List.mem_append_right _ (List.mem_append_right _ (List.mem_append_left _ h))))))
  have iX7 : ∀ w ∈ wsX70, w ∈ v_X11_writeF := (fun _ h => List.mem_cons_of_mem _ (List.mem_append_right _ (List.mem_append_right _ (List.mem_append_right _ (List.mem_append_right _ (List.mem_append_right _ (List.mem_append_left _ h)))))))
  have hD := hD0.self (sz := s.heap.size)
  generalize hAe : (va_A [(x, .inr (10, [.ref x_tape, .ref x_land, .ref x_images, .ref x_book, .ref x_course, .ref x_fates, .ref x_chances, .ref x_will, .ref x_slots, .ref x_seen, .ref x_drawn])), (x_slots, .inr (7, [.ref x_slots_width, .ref x_slots_size, .ref x_slots_numbers])), (x_slots_size, .inl (cI, 4, .inl x_slots_size_c)), (x_slots_width, .inl (cI, 4, .inl x_slots_width_c)), (x_slots_numbers, .inl (cJ, 240, .inr (.inl x_slots_numbers_c)))] s.heap.size) = A at hD ⊢
  have hA : ∀ q : Nat, s.heap.size ≤ q → A q := fun q h => by rw [← hAe]; exact Or.inr h
  have hS : va_S A s.heap s.heap [] := va_S.rf
  have hl := lv_entry ([.ref x, .int p0, .int p1, .long p2]) (n := 5) (Nat.le_of_ble_eq_true rfl)
  rw [lg_entry_eq]
  generalize (lg_sl ([.ref x, .int p0, .int p1, .long p2]) ++ List.replicate (5 - (lg_sl ([.ref x, .int p0, .int p1, .long p2])).length) Slot.unset).toArray = ls at hl ⊢
  generalize ([.ref x, .int p0, .int p1, .long p2] : List Value).toArray = av at hts ⊢
  generalize hQ : MQ below _ av s _ _ A = QQ
  have hl : lv_has ls 5 [(0, .ref x), (1, .int p0), (2, .int p1), (3, .long p2)] := hl
  have hP : va_P g vwCl [(x, .inr (10, [.ref x_tape, .ref x_land, .ref x_images, .ref x_book, .ref x_course, .ref x_fates, .ref x_chances, .ref x_will, .ref x_slots, .ref x_seen, .ref x_drawn])), (x_slots, .inr (7, [.ref x_slots_width, .ref x_slots_size, .ref x_slots_numbers])), (x_slots_size, .inl (cI, 4, .inl x_slots_size_c)), (x_slots_width, .inl (cI, 4, .inl x_slots_width_c)), (x_slots_numbers, .inl (cJ, 240, .inr (.inl x_slots_numbers_c)))] s.heap := hP
  refine lv_iload_n hx hb dX11_write_0 rfl (lv_at hl 1 rfl) ?_
  refine lv_iconst (v := 4) hx hb dX11_write_1 (by decide) ?_
  refine ro_i (va_runS (As := [.int p0, .int 4]) (rest := []) ⟨hx, hb, hml, hown, hts⟩ (q_X11_isBelowN l g cI cJ cB cZ cL p0 4 s.heap.size ) (va_cwS 2 hts (goodIn_app (g_3 (List.mem_cons_of_mem _ (List.mem_append_left _ (List.mem_of_getElem? (i := 0) rfl))) (List.mem_cons_of_mem _ (List.mem_append_left _ (List.mem_of_getElem? (i := 1) rfl))) (List.mem_cons_of_mem _ (List.mem_append_left _ (List.mem_of_getElem? (i := 2) rfl))) (by decide +kernel)) (goodIn_sub (fun _ h => List.mem_cons_of_mem _ (List.mem_append_right _ (List.mem_append_left _ h))) good_v_X11_isBelowN)) rfl rfl rfl (by decide +kernel) ⟨Nat.le_of_ble_eq_true rfl, Nat.le_of_ble_eq_true rfl⟩) (ps_RO (wc := []) hK hP [] rfl) rfl rfl hl.1 rfl (lv_room (Nat.le_of_ble_eq_true rfl)) dX11_write_2 ⟨Nat.le_of_ble_eq_true rfl, Nat.le_of_ble_eq_true rfl⟩) hS hA hP (fun r2 u2 H locs hw2 hP hS => ?_)
  have hw2_0 := hw2
  rcases hw2_0 with ⟨er2, fc2_0, fc2_1⟩ | ⟨er2, fc2_0⟩
  rotate_left 1
  · subst er2
    have fc2_0 : ¬ (0 ≤ p0.toInt ∧ p0.toInt < 4) := fc2_0
    refine lv_if_ne (tgt := 11) hx hb dX11_write_5 (by decide) (fun c => absurd c (by decide)) (fun _ => ?_)
    refine lv_bipush (v := (-2)) hx hb dX11_write_8 (by decide) ?_
    subst hQ
    have hP9 := hP.sub (ws' := [(x, .inr (10, [.ref x_tape, .ref x_land, .ref x_images, .ref x_book, .ref x_course, .ref x_fates, .ref x_chances, .ref x_will, .ref x_slots, .ref x_seen, .ref x_drawn])), (x_slots, .inr (7, [.ref x_slots_width, .ref x_slots_size, .ref x_slots_numbers])), (x_slots_size, .inl (cI, 4, .inl x_slots_size_c)), (x_slots_width, .inl (cI, 4, .inl x_slots_width_c)), (x_slots_numbers, .inl (cJ, 240, .inr (.inl x_slots_numbers_c)))]) [0, 1, 2, 3, 4] rfl
    have hD9 := hD.sub (ws' := [(x, .inr (10, [.ref x_tape, .ref x_land, .ref x_images, .ref x_book, .ref x_course, .ref x_fates, .ref x_chances, .ref x_will, .ref x_slots, .ref x_seen, .ref x_drawn])), (x_slots, .inr (7, [.ref x_slots_width, .ref x_slots_size, .ref x_slots_numbers])), (x_slots_size, .inl (cI, 4, .inl x_slots_size_c)), (x_slots_width, .inl (cI, 4, .inl x_slots_width_c)), (x_slots_numbers, .inl (cJ, 240, .inr (.inl x_slots_numbers_c)))]) [0, 1, 2, 3, 4] (by decide) rfl
    exact W.iret (v := (-2)) hx hb hr (fun t ht hW => ⟨⟨(-2), x_slots_numbers_c, rfl, ⟨(by unfold wrG; first | (rw [if_neg (by omega)]; done) | (rw [if_pos (by omega), if_pos (by omega)]; done) | (rw [if_pos (by omega), if_neg (by omega), if_pos (by omega)]; done) | (rw [if_pos (by omega), if_neg (by omega), if_neg (by omega)]; done)), (show ir ((-2) : Int32).toInt (-7) 0 by decide)⟩, ⟨by rw [ht]; exact hP9, va_K.moved hW.alike hK, hD9⟩⟩, hS.F ht⟩) hS.2.2 dX11_write_10
  subst er2
  have fc2_0 : 0 ≤ p0.toInt := fc2_0
  have r2_0b : ir p0.toInt 0 2147483647 := ir_leb fc2_0 (ir_c 0) (rg_all p0) (by decide)
  have fc2_1 : p0.toInt < 4 := fc2_1
  have r2_1a : ir p0.toInt 0 3 := ir_lta fc2_1 r2_0b (ir_c 4) (by decide)
  refine lv_if_ne (tgt := 11) hx hb dX11_write_5 (by decide) (fun _ => ?_) (fun c => absurd c (by decide))
  refine lv_aload_n hx hb dX11_write_11 rfl (lv_at hl 0 rfl) ?_
  refine va_get (D := g) (ci := 10) (v := .ref x_slots) (C := RX11) (T := TX11) (N := 11) hx hb hts iX11 hown hK hP 0 rfl rfl 8 (by decide) (hts (.fieldLink RX11 65 "CardsAtYule" "slots" "LCardsAtYule$Slots;") (List.mem_cons_of_mem _ (List.mem_append_left _ (List.mem_of_getElem? (i := 3) rfl)))) (fun _ h9 => h9) rfl dX11_write_12 ?_
  refine lv_iload_n hx hb dX11_write_15 rfl (lv_at hl 1 rfl) ?_
  refine ro_i (va_runV (As := [.int p0]) (rest := []) ⟨hx, hb, hml, hown, hts⟩ (q_X7_hasF l g cI cJ cB cZ cL p0 x_slots x_slots_width x_slots_size x_slots_numbers x_slots_size_c H.size r2_1a ha_x_slots_size_c) (cwV 1 hts (goodIn_app (g_4 (List.mem_cons_of_mem _ (List.mem_append_left _ (List.mem_of_getElem? (i := 4) rfl))) (List.mem_cons_of_mem _ (List.mem_append_left _ (List.mem_of_getElem? (i := 5) rfl))) (List.mem_cons_of_mem _ (List.mem_append_left _ (List.mem_of_getElem? (i := 6) rfl))) (List.mem_cons_of_mem _ (List.mem_append_left _ (List.mem_of_getElem? (i := 7) rfl))) (by decide +kernel)) (goodIn_sub (fun _ h => List.mem_cons_of_mem _ (List.mem_append_right _ (List.mem_append_right _ (List.mem_append_left _ h)))) good_v_X7_hasF)) rfl rfl rfl (by decide +kernel) ⟨Nat.le_of_ble_eq_true rfl, Nat.le_of_ble_eq_true rfl⟩) (pv_RO (q := (RX7, TX7, 3)) (ci := 7) (q0 := 0) (wc := [(x_slots, .inr (7, [.ref x_slots_width, .ref x_slots_size, .ref x_slots_numbers])), (x_slots_size, .inl (cI, 4, .inl x_slots_size_c))]) hK hP [1, 2] rfl rfl rfl) rfl rfl hl.1 rfl (lv_room (Nat.le_of_ble_eq_true rfl)) dX11_write_16 ⟨Nat.le_of_ble_eq_true rfl, Nat.le_of_ble_eq_true rfl⟩) hS hA hP (fun r16 u16 H locs hw16 hP hS => ?_)
  have hw16_0 := hw16
  rcases hw16_0 with ⟨er16, fc16_0⟩ | ⟨er16, fc16_0⟩
  rotate_left 1
  · subst er16
    have fc16_0 : (x_slots_size_c p0.toNatClampNeg).toInt = -1 := fc16_0
    refine lv_if_ne (tgt := 25) hx hb dX11_write_19 (by decide) (fun c => absurd c (by decide)) (fun _ => ?_)
    refine lv_bipush (v := (-6)) hx hb dX11_write_22 (by decide) ?_
    subst hQ
    have hP9 := hP.sub (ws' := [(x, .inr (10, [.ref x_tape, .ref x_land, .ref x_images, .ref x_book, .ref x_course, .ref x_fates, .ref x_chances, .ref x_will, .ref x_slots, .ref x_seen, .ref x_drawn])), (x_slots, .inr (7, [.ref x_slots_width, .ref x_slots_size, .ref x_slots_numbers])), (x_slots_size, .inl (cI, 4, .inl x_slots_size_c)), (x_slots_width, .inl (cI, 4, .inl x_slots_width_c)), (x_slots_numbers, .inl (cJ, 240, .inr (.inl x_slots_numbers_c)))]) [0, 1, 2, 3, 4] rfl
    have hD9 := hD.sub (ws' := [(x, .inr (10, [.ref x_tape, .ref x_land, .ref x_images, .ref x_book, .ref x_course, .ref x_fates, .ref x_chances, .ref x_will, .ref x_slots, .ref x_seen, .ref x_drawn])), (x_slots, .inr (7, [.ref x_slots_width, .ref x_slots_size, .ref x_slots_numbers])), (x_slots_size, .inl (cI, 4, .inl x_slots_size_c)), (x_slots_width, .inl (cI, 4, .inl x_slots_width_c)), (x_slots_numbers, .inl (cJ, 240, .inr (.inl x_slots_numbers_c)))]) [0, 1, 2, 3, 4] (by decide) rfl
    exact W.iret (v := (-6)) hx hb hr (fun t ht hW => ⟨⟨(-6), x_slots_numbers_c, rfl, ⟨(by unfold wrG; first | (rw [if_neg (by omega)]; done) | (rw [if_pos (by omega), if_pos (by omega)]; done) | (rw [if_pos (by omega), if_neg (by omega), if_pos (by omega)]; done) | (rw [if_pos (by omega), if_neg (by omega), if_neg (by omega)]; done)), (show ir ((-6) : Int32).toInt (-7) 0 by decide)⟩, ⟨by rw [ht]; exact hP9, va_K.moved hW.alike hK, hD9⟩⟩, hS.F ht⟩) hS.2.2 dX11_write_24
  subst er16
  have fc16_0 : (x_slots_size_c p0.toNatClampNeg).toInt ≠ -1 := fc16_0
  refine lv_if_ne (tgt := 25) hx hb dX11_write_19 (by decide) (fun _ => ?_) (fun c => absurd c (by decide))
  refine lv_iload_n hx hb dX11_write_25 rfl (lv_at hl 2 rfl) ?_
  refine lv_aload_n hx hb dX11_write_26 rfl (lv_at hl 0 rfl) ?_
  refine va_get (D := g) (ci := 10) (v := .ref x_slots) (C := RX11) (T := TX11) (N := 11) hx hb hts iX11 hown hK hP 0 rfl rfl 8 (by decide) (hts (.fieldLink RX11 65 "CardsAtYule" "slots" "LCardsAtYule$Slots;") (List.mem_cons_of_mem _ (List.mem_append_left _ (List.mem_of_getElem? (i := 3) rfl)))) (fun _ h9 => h9) rfl dX11_write_27 ?_
  refine va_get (D := g) (ci := 7) (v := .ref x_slots_size) (C := RX7) (T := TX7) (N := 3) hx hb hts iX7 hown hK hP 1 rfl rfl 1 (by decide) (hts (.fieldLink RX11 339 "CardsAtYule$Slots" "size" "[I") (List.mem_cons_of_mem _ (List.mem_append_left _ (List.mem_of_getElem? (i := 8) rfl)))) (fun _ h9 => h9) rfl dX11_write_30 ?_
  refine lv_iload_n hx hb dX11_write_33 rfl (lv_at hl 1 rfl) ?_
  refine va_iald (D := g) hx hb hK hP 2 0 rfl rfl (vi_rg rfl r2_1a (by decide) (by decide)) dX11_write_34 ?_
  have r34 : ir (x_slots_size_c p0.toNatClampNeg).toInt (-1) 60 := ha_x_slots_size_c _ (vi_cl (vi_rg rfl r2_1a (by decide) (by decide)))
  refine ro_i (va_runS (As := [.int p1, .int (x_slots_size_c p0.toNatClampNeg)]) (rest := []) ⟨hx, hb, hml, hown, hts⟩ (q_X11_isBelowN l g cI cJ cB cZ cL p1 (x_slots_size_c p0.toNatClampNeg) H.size ) (va_cwS 2 hts (goodIn_app (g_3 (List.mem_cons_of_mem _ (List.mem_append_left _ (List.mem_of_getElem? (i := 0) rfl))) (List.mem_cons_of_mem _ (List.mem_append_left _ (List.mem_of_getElem? (i := 1) rfl))) (List.mem_cons_of_mem _ (List.mem_append_left _ (List.mem_of_getElem? (i := 2) rfl))) (by decide +kernel)) (goodIn_sub (fun _ h => List.mem_cons_of_mem _ (List.mem_append_right _ (List.mem_append_left _ h))) good_v_X11_isBelowN)) rfl rfl rfl (by decide +kernel) ⟨Nat.le_of_ble_eq_true rfl, Nat.le_of_ble_eq_true rfl⟩) (ps_RO (wc := []) hK hP [] rfl) rfl rfl hl.1 rfl (lv_room (Nat.le_of_ble_eq_true rfl)) dX11_write_35 ⟨Nat.le_of_ble_eq_true rfl, Nat.le_of_ble_eq_true rfl⟩) hS hA hP (fun r35 u35 H locs hw35 hP hS => ?_)
  have hw35_0 := hw35
  rcases hw35_0 with ⟨er35, fc35_0, fc35_1⟩ | ⟨er35, fc35_0⟩
  rotate_left 1
  · subst er35
    have fc35_0 : ¬ (0 ≤ p1.toInt ∧ p1.toInt < (x_slots_size_c p0.toNatClampNeg).toInt) := fc35_0
    refine lv_if_ne (tgt := 44) hx hb dX11_write_38 (by decide) (fun c => absurd c (by decide)) (fun _ => ?_)
    refine lv_bipush (v := (-7)) hx hb dX11_write_41 (by decide) ?_
    subst hQ
    have hP9 := hP.sub (ws' := [(x, .inr (10, [.ref x_tape, .ref x_land, .ref x_images, .ref x_book, .ref x_course, .ref x_fates, .ref x_chances, .ref x_will, .ref x_slots, .ref x_seen, .ref x_drawn])), (x_slots, .inr (7, [.ref x_slots_width, .ref x_slots_size, .ref x_slots_numbers])), (x_slots_size, .inl (cI, 4, .inl x_slots_size_c)), (x_slots_width, .inl (cI, 4, .inl x_slots_width_c)), (x_slots_numbers, .inl (cJ, 240, .inr (.inl x_slots_numbers_c)))]) [0, 1, 2, 3, 4] rfl
    have hD9 := hD.sub (ws' := [(x, .inr (10, [.ref x_tape, .ref x_land, .ref x_images, .ref x_book, .ref x_course, .ref x_fates, .ref x_chances, .ref x_will, .ref x_slots, .ref x_seen, .ref x_drawn])), (x_slots, .inr (7, [.ref x_slots_width, .ref x_slots_size, .ref x_slots_numbers])), (x_slots_size, .inl (cI, 4, .inl x_slots_size_c)), (x_slots_width, .inl (cI, 4, .inl x_slots_width_c)), (x_slots_numbers, .inl (cJ, 240, .inr (.inl x_slots_numbers_c)))]) [0, 1, 2, 3, 4] (by decide) rfl
    exact W.iret (v := (-7)) hx hb hr (fun t ht hW => ⟨⟨(-7), x_slots_numbers_c, rfl, ⟨(by unfold wrG; first | (rw [if_neg (by omega)]; done) | (rw [if_pos (by omega), if_pos (by omega)]; done) | (rw [if_pos (by omega), if_neg (by omega), if_pos (by omega)]; done) | (rw [if_pos (by omega), if_neg (by omega), if_neg (by omega)]; done)), (show ir ((-7) : Int32).toInt (-7) 0 by decide)⟩, ⟨by rw [ht]; exact hP9, va_K.moved hW.alike hK, hD9⟩⟩, hS.F ht⟩) hS.2.2 dX11_write_43
  subst er35
  have fc35_0 : 0 ≤ p1.toInt := fc35_0
  have r35_0b : ir p1.toInt 0 2147483647 := ir_leb fc35_0 (ir_c 0) (rg_all p1) (by decide)
  have fc35_1 : p1.toInt < (x_slots_size_c p0.toNatClampNeg).toInt := fc35_1
  have r35_1a : ir p1.toInt 0 59 := ir_lta fc35_1 r35_0b r34 (by decide)
  have r35_1b : ir (x_slots_size_c p0.toNatClampNeg).toInt 1 60 := ir_ltb fc35_1 r35_0b r34 (by decide)
  refine lv_if_ne (tgt := 44) hx hb dX11_write_38 (by decide) (fun _ => ?_) (fun c => absurd c (by decide))
  refine lv_aload_n hx hb dX11_write_44 rfl (lv_at hl 0 rfl) ?_
  refine va_get (D := g) (ci := 10) (v := .ref x_slots) (C := RX11) (T := TX11) (N := 11) hx hb hts iX11 hown hK hP 0 rfl rfl 8 (by decide) (hts (.fieldLink RX11 65 "CardsAtYule" "slots" "LCardsAtYule$Slots;") (List.mem_cons_of_mem _ (List.mem_append_left _ (List.mem_of_getElem? (i := 3) rfl)))) (fun _ h9 => h9) rfl dX11_write_45 ?_
  refine lv_iload_n hx hb dX11_write_48 rfl (lv_at hl 1 rfl) ?_
  refine lv_iload_n hx hb dX11_write_49 rfl (lv_at hl 2 rfl) ?_
  refine lv_lload_n hx hb dX11_write_50 rfl (lv_at hl 3 rfl) ?_
  refine rw_v (wr := [(x, .inr (10, [.ref x_tape, .ref x_land, .ref x_images, .ref x_book, .ref x_course, .ref x_fates, .ref x_chances, .ref x_will, .ref x_slots, .ref x_seen, .ref x_drawn])), (x_slots_size, .inl (cI, 4, .inl x_slots_size_c))]) (va_runV (As := [.int p0, .int p1, .long p2]) (rest := []) ⟨hx, hb, hml, hown, hts⟩ (q_X7_put l g cI cJ cB cZ cL p0 p1 p2 x_slots x_slots_width x_slots_size x_slots_numbers x_slots_width_c x_slots_numbers_c H.size r2_1a r35_1a) (cwV 3 hts (goodIn_app (g_4 (List.mem_cons_of_mem _ (List.mem_append_left _ (List.mem_of_getElem? (i := 9) rfl))) (List.mem_cons_of_mem _ (List.mem_append_left _ (List.mem_of_getElem? (i := 10) rfl))) (List.mem_cons_of_mem _ (List.mem_append_left _ (List.mem_of_getElem? (i := 11) rfl))) (List.mem_cons_of_mem _ (List.mem_append_left _ (List.mem_of_getElem? (i := 7) rfl))) (by decide +kernel)) (goodIn_sub (fun _ h => List.mem_cons_of_mem _ (List.mem_append_right _ (List.mem_append_right _ (List.mem_append_right _ (List.mem_append_left _ h))))) good_v_X7_put)) rfl rfl rfl (by decide +kernel) ⟨Nat.le_of_ble_eq_true rfl, Nat.le_of_ble_eq_true rfl⟩) (pv_RW (q := (RX7, TX7, 3)) (ci := 7) (q0 := 0) (wc := [(x_slots, .inr (7, [.ref x_slots_width, .ref x_slots_size, .ref x_slots_numbers])), (x_slots_width, .inl (cI, 4, .inl x_slots_width_c)), (x_slots_numbers, .inl (cJ, 240, .inr (.inl x_slots_numbers_c)))]) hK hP hD [1, 3, 4] (by decide) rfl rfl rfl) rfl rfl hl.1 rfl (lv_room (Nat.le_of_ble_eq_true rfl)) dX11_write_51 ⟨Nat.le_of_ble_eq_true rfl, Nat.le_of_ble_eq_true rfl⟩) hS hA hP hD [1, 3, 4] [0, 2] rfl rfl (by decide) (by decide) (fun u51 H locs hw51 hP hD hS => ?_)
  generalize u51 = n_sl_numbers_c_51 at hw51 hP hD
  have hP : va_P g vwCl [(x, .inr (10, [.ref x_tape, .ref x_land, .ref x_images, .ref x_book, .ref x_course, .ref x_fates, .ref x_chances, .ref x_will, .ref x_slots, .ref x_seen, .ref x_drawn])), (x_slots_size, .inl (cI, 4, .inl x_slots_size_c)), (x_slots, .inr (7, [.ref x_slots_width, .ref x_slots_size, .ref x_slots_numbers])), (x_slots_width, .inl (cI, 4, .inl x_slots_width_c)), (x_slots_numbers, .inl (cJ, 240, .inr (.inl n_sl_numbers_c_51)))] H := hP
  have hD : va_D A [(x, .inr (10, [.ref x_tape, .ref x_land, .ref x_images, .ref x_book, .ref x_course, .ref x_fates, .ref x_chances, .ref x_will, .ref x_slots, .ref x_seen, .ref x_drawn])), (x_slots_size, .inl (cI, 4, .inl x_slots_size_c)), (x_slots, .inr (7, [.ref x_slots_width, .ref x_slots_size, .ref x_slots_numbers])), (x_slots_width, .inl (cI, 4, .inl x_slots_width_c)), (x_slots_numbers, .inl (cJ, 240, .inr (.inl n_sl_numbers_c_51)))] := hD
  refine lv_iconst (v := 0) hx hb dX11_write_54 (by decide) ?_
  subst hQ
  have hP9 := hP.sub (ws' := [(x, .inr (10, [.ref x_tape, .ref x_land, .ref x_images, .ref x_book, .ref x_course, .ref x_fates, .ref x_chances, .ref x_will, .ref x_slots, .ref x_seen, .ref x_drawn])), (x_slots, .inr (7, [.ref x_slots_width, .ref x_slots_size, .ref x_slots_numbers])), (x_slots_size, .inl (cI, 4, .inl x_slots_size_c)), (x_slots_width, .inl (cI, 4, .inl x_slots_width_c)), (x_slots_numbers, .inl (cJ, 240, .inr (.inl n_sl_numbers_c_51)))]) [0, 2, 1, 3, 4] rfl
  have hD9 := hD.sub (ws' := [(x, .inr (10, [.ref x_tape, .ref x_land, .ref x_images, .ref x_book, .ref x_course, .ref x_fates, .ref x_chances, .ref x_will, .ref x_slots, .ref x_seen, .ref x_drawn])), (x_slots, .inr (7, [.ref x_slots_width, .ref x_slots_size, .ref x_slots_numbers])), (x_slots_size, .inl (cI, 4, .inl x_slots_size_c)), (x_slots_width, .inl (cI, 4, .inl x_slots_width_c)), (x_slots_numbers, .inl (cJ, 240, .inr (.inl n_sl_numbers_c_51)))]) [0, 2, 1, 3, 4] (by decide) rfl
  exact W.iret (v := 0) hx hb hr (fun t ht hW => ⟨⟨0, n_sl_numbers_c_51, rfl, ⟨(by unfold wrG; first | (rw [if_neg (by omega)]; done) | (rw [if_pos (by omega), if_pos (by omega)]; done) | (rw [if_pos (by omega), if_neg (by omega), if_pos (by omega)]; done) | (rw [if_pos (by omega), if_neg (by omega), if_neg (by omega)]; done)), (show ir (0 : Int32).toInt (-7) 0 by decide)⟩, ⟨by rw [ht]; exact hP9, va_K.moved hW.alike hK, hD9⟩⟩, hS.F ht⟩) hS.2.2 dX11_write_55
def v_X11_pasteF : List Cond := .code yX11_paste cX11_paste 6 (some .int) :: (([.methodLink RX11 148 yX11_isBelow, .static yX11_isBelow, .initialized RX11, .fieldLink RX11 65 "CardsAtYule" "slots" "LCardsAtYule$Slots;", .methodLink RX11 394 yX7_has, .instanceMethod yX7_has, .selects RX7 yX7_has yX7_has, .initialized RX7, .fieldLink RX11 401 "CardsAtYule$Slots" "width" "[I", .methodLink RX11 404 yX7_holds, .instanceMethod yX7_holds, .selects RX7 yX7_holds yX7_holds, .methodLink RX11 407 yX7_copy, .instanceMethod yX7_copy, .selects RX7 yX7_copy yX7_copy] : List Cond) ++ (v_X11_isBelowN ++ (v_X7_hasF ++ (v_X7_holdsF ++ (v_X7_copy ++ (wsX110 ++ (wsX70 ++ ([] : List Cond))))))))
theorem good_v_X11_pasteF : v_X11_pasteF.all goodWord = true := ga_c (by decide +kernel) (ga_a (by decide +kernel) (ga_a good_v_X11_isBelowN (ga_a good_v_X7_hasF (ga_a good_v_X7_holdsF (ga_a good_v_X7_copy (ga_a good_wsX110 (ga_a good_wsX70 rfl)))))))
set_option maxHeartbeats 4000000 in
set_option maxRecDepth 100000 in
theorem q_X11_pasteF (l : Launch) (g : va_G) (cI cJ cB cZ cL : ClassId) (p0 : Int32) (p1 : Int32) (p2 : Int32) (p3 : Int32) (p4 : Int32) (x : Nat) (x_tape : Nat) (x_land : Nat) (x_images : Nat) (x_book : Nat) (x_course : Nat) (x_fates : Nat) (x_chances : Nat) (x_will : Nat) (x_slots : Nat) (x_seen : Nat) (x_drawn : Nat) (x_slots_width : Nat) (x_slots_size : Nat) (x_slots_numbers : Nat) (x_slots_size_c : Nat → Int32) (x_slots_width_c : Nat → Int32) (x_slots_numbers_c : Nat → Int64) (sz : Nat) (ha_x_slots_size_c : ar x_slots_size_c 4 (-1) 60) : Met l yX11_paste v_X11_pasteF ({ frames := 2, cells := 0, slots := 0, locals := 49 }) (va_Pc [.ref x, .int p0, .int p1, .int p2, .int p3, .int p4] (pRW g (tyT cI cJ cB cZ cL) [(x, .inr (10, [.ref x_tape, .ref x_land, .ref x_images, .ref x_book, .ref x_course, .ref x_fates, .ref x_chances, .ref x_will, .ref x_slots, .ref x_seen, .ref x_drawn])), (x_slots, .inr (7, [.ref x_slots_width, .ref x_slots_size, .ref x_slots_numbers])), (x_slots_size, .inl (cI, 4, .inl x_slots_size_c)), (x_slots_width, .inl (cI, 4, .inl x_slots_width_c)), (x_slots_numbers, .inl (cJ, 240, .inr (.inl x_slots_numbers_c)))] sz)) (va_Qi (fun (r : Int32) (u : (Nat → Int64)) => match u with | n_x_slots_numbers_c => (r = paG p0.toInt p2.toInt p1.toInt p3.toInt p4.toInt (x_slots_width_c p0.toNatClampNeg).toInt (x_slots_width_c p2.toNatClampNeg).toInt (x_slots_size_c p0.toNatClampNeg).toInt (x_slots_size_c p2.toNatClampNeg).toInt (x_slots_size_c p0.toNatClampNeg).toInt (x_slots_size_c p2.toNatClampNeg).toInt) ∧ (ir r.toInt (-8) 0)) (fun (u : (Nat → Int64)) (t : State) => bRW g (tyT cI cJ cB cZ cL) (va_A [(x, .inr (10, [.ref x_tape, .ref x_land, .ref x_images, .ref x_book, .ref x_course, .ref x_fates, .ref x_chances, .ref x_will, .ref x_slots, .ref x_seen, .ref x_drawn])), (x_slots, .inr (7, [.ref x_slots_width, .ref x_slots_size, .ref x_slots_numbers])), (x_slots_size, .inl (cI, 4, .inl x_slots_size_c)), (x_slots_width, .inl (cI, 4, .inl x_slots_width_c)), (x_slots_numbers, .inl (cJ, 240, .inr (.inl x_slots_numbers_c)))] sz) (match u with | n_x_slots_numbers_c => [(x, .inr (10, [.ref x_tape, .ref x_land, .ref x_images, .ref x_book, .ref x_course, .ref x_fates, .ref x_chances, .ref x_will, .ref x_slots, .ref x_seen, .ref x_drawn])), (x_slots, .inr (7, [.ref x_slots_width, .ref x_slots_size, .ref x_slots_numbers])), (x_slots_size, .inl (cI, 4, .inl x_slots_size_c)), (x_slots_width, .inl (cI, 4, .inl x_slots_width_c)), (x_slots_numbers, .inl (cJ, 240, .inr (.inl n_x_slots_numbers_c)))]) t) (va_A [(x, .inr (10, [.ref x_tape, .ref x_land, .ref x_images, .ref x_book, .ref x_course, .ref x_fates, .ref x_chances, .ref x_will, .ref x_slots, .ref x_seen, .ref x_drawn])), (x_slots, .inr (7, [.ref x_slots_width, .ref x_slots_size, .ref x_slots_numbers])), (x_slots_size, .inl (cI, 4, .inl x_slots_size_c)), (x_slots_width, .inl (cI, 4, .inl x_slots_width_c)), (x_slots_numbers, .inl (cJ, 240, .inr (.inl x_slots_numbers_c)))] sz)) 0 0 (va_A [(x, .inr (10, [.ref x_tape, .ref x_land, .ref x_images, .ref x_book, .ref x_course, .ref x_fates, .ref x_chances, .ref x_will, .ref x_slots, .ref x_seen, .ref x_drawn])), (x_slots, .inr (7, [.ref x_slots_width, .ref x_slots_size, .ref x_slots_numbers])), (x_slots_size, .inl (cI, 4, .inl x_slots_size_c)), (x_slots_width, .inl (cI, 4, .inl x_slots_width_c)), (x_slots_numbers, .inl (cJ, 240, .inr (.inl x_slots_numbers_c)))] sz) := by
  refine Met.ofW (cc := cX11_paste) (maxL := 6) (ret := (some .int)) (by decide) rfl ?_
  intro p e s m args below meth c s₁ B hml hv
  obtain ⟨rfl, hsz, hP, hK, hD0⟩ := hv
  have hx := B.exec
  have hb := B.bytes
  have hr := B.returns
  have hts := atoms_spec (ws := v_X11_pasteF) B.pre
  have hown : s.vm.findClass RX11 = some m.cls := findClass_of_methodNamed B.named
  have hlocks := B.notSynchronized
  clear B
  subst hsz
  have iX11 : ∀ w ∈ wsX110, w ∈ v_X11_pasteF := (fun _ h => List.mem_cons_of_mem _ (List.mem_append_right _ (List.mem_append_right _ (List.mem_append_right _ (List.mem_append_right _ (List.mem_append_right _ (List.mem_append_left _ h)))))))
  have iX7 : ∀ w ∈ wsX70, w ∈ v_X11_pasteF := (fun _ h => List.mem_cons_of_mem _ (List.mem_append_right _ (List.mem_append_right _ (List.mem_append_right _ (List.mem_append_right _ (List.mem_append_right _ (List.mem_append_right _ (List.mem_append_left _ h))))))))
  have hD := hD0.self (sz := s.heap.size)
  generalize hAe : (va_A [(x, .inr (10, [.ref x_tape, .ref x_land, .ref x_images, .ref x_book, .ref x_course, .ref x_fates, .ref x_chances, .ref x_will, .ref x_slots, .ref x_seen, .ref x_drawn])), (x_slots, .inr (7, [.ref x_slots_width, .ref x_slots_size, .ref x_slots_numbers])), (x_slots_size, .inl (cI, 4, .inl x_slots_size_c)), (x_slots_width, .inl (cI, 4, .inl x_slots_width_c)), (x_slots_numbers, .inl (cJ, 240, .inr (.inl x_slots_numbers_c)))] s.heap.size) = A at hD ⊢
  have hA : ∀ q : Nat, s.heap.size ≤ q → A q := fun q h => by rw [← hAe]; exact Or.inr h
  have hS : va_S A s.heap s.heap [] := va_S.rf
  have hl := lv_entry ([.ref x, .int p0, .int p1, .int p2, .int p3, .int p4]) (n := 6) (Nat.le_of_ble_eq_true rfl)
  rw [lg_entry_eq]
  generalize (lg_sl ([.ref x, .int p0, .int p1, .int p2, .int p3, .int p4]) ++ List.replicate (6 - (lg_sl ([.ref x, .int p0, .int p1, .int p2, .int p3, .int p4])).length) Slot.unset).toArray = ls at hl ⊢
  generalize ([.ref x, .int p0, .int p1, .int p2, .int p3, .int p4] : List Value).toArray = av at hts ⊢
  generalize hQ : MQ below _ av s _ _ A = QQ
  have hl : lv_has ls 6 [(0, .ref x), (1, .int p0), (2, .int p1), (3, .int p2), (4, .int p3), (5, .int p4)] := hl
  have hP : va_P g vwCl [(x, .inr (10, [.ref x_tape, .ref x_land, .ref x_images, .ref x_book, .ref x_course, .ref x_fates, .ref x_chances, .ref x_will, .ref x_slots, .ref x_seen, .ref x_drawn])), (x_slots, .inr (7, [.ref x_slots_width, .ref x_slots_size, .ref x_slots_numbers])), (x_slots_size, .inl (cI, 4, .inl x_slots_size_c)), (x_slots_width, .inl (cI, 4, .inl x_slots_width_c)), (x_slots_numbers, .inl (cJ, 240, .inr (.inl x_slots_numbers_c)))] s.heap := hP
  refine lv_iload_n hx hb dX11_paste_0 rfl (lv_at hl 1 rfl) ?_
  refine lv_iconst (v := 4) hx hb dX11_paste_1 (by decide) ?_
  refine ro_i (va_runS (As := [.int p0, .int 4]) (rest := []) ⟨hx, hb, hml, hown, hts⟩ (q_X11_isBelowN l g cI cJ cB cZ cL p0 4 s.heap.size ) (va_cwS 2 hts (goodIn_app (g_3 (List.mem_cons_of_mem _ (List.mem_append_left _ (List.mem_of_getElem? (i := 0) rfl))) (List.mem_cons_of_mem _ (List.mem_append_left _ (List.mem_of_getElem? (i := 1) rfl))) (List.mem_cons_of_mem _ (List.mem_append_left _ (List.mem_of_getElem? (i := 2) rfl))) (by decide +kernel)) (goodIn_sub (fun _ h => List.mem_cons_of_mem _ (List.mem_append_right _ (List.mem_append_left _ h))) good_v_X11_isBelowN)) rfl rfl rfl (by decide +kernel) ⟨Nat.le_of_ble_eq_true rfl, Nat.le_of_ble_eq_true rfl⟩) (ps_RO (wc := []) hK hP [] rfl) rfl rfl hl.1 rfl (lv_room (Nat.le_of_ble_eq_true rfl)) dX11_paste_2 ⟨Nat.le_of_ble_eq_true rfl, Nat.le_of_ble_eq_true rfl⟩) hS hA hP (fun r2 u2 H locs hw2 hP hS => ?_)
  have hw2_0 := hw2
  rcases hw2_0 with ⟨er2, fc2_0, fc2_1⟩ | ⟨er2, fc2_0⟩
  rotate_left 1
  · subst er2
    have fc2_0 : ¬ (0 ≤ p0.toInt ∧ p0.toInt < 4) := fc2_0
    refine lv_if_eq (tgt := 16) hx hb dX11_paste_5 (by decide) (fun _ => ?_) (fun c => absurd c (by decide))
    refine lv_bipush (v := (-2)) hx hb dX11_paste_16 (by decide) ?_
    subst hQ
    have hP9 := hP.sub (ws' := [(x, .inr (10, [.ref x_tape, .ref x_land, .ref x_images, .ref x_book, .ref x_course, .ref x_fates, .ref x_chances, .ref x_will, .ref x_slots, .ref x_seen, .ref x_drawn])), (x_slots, .inr (7, [.ref x_slots_width, .ref x_slots_size, .ref x_slots_numbers])), (x_slots_size, .inl (cI, 4, .inl x_slots_size_c)), (x_slots_width, .inl (cI, 4, .inl x_slots_width_c)), (x_slots_numbers, .inl (cJ, 240, .inr (.inl x_slots_numbers_c)))]) [0, 1, 2, 3, 4] rfl
    have hD9 := hD.sub (ws' := [(x, .inr (10, [.ref x_tape, .ref x_land, .ref x_images, .ref x_book, .ref x_course, .ref x_fates, .ref x_chances, .ref x_will, .ref x_slots, .ref x_seen, .ref x_drawn])), (x_slots, .inr (7, [.ref x_slots_width, .ref x_slots_size, .ref x_slots_numbers])), (x_slots_size, .inl (cI, 4, .inl x_slots_size_c)), (x_slots_width, .inl (cI, 4, .inl x_slots_width_c)), (x_slots_numbers, .inl (cJ, 240, .inr (.inl x_slots_numbers_c)))]) [0, 1, 2, 3, 4] (by decide) rfl
    exact W.iret (v := (-2)) hx hb hr (fun t ht hW => ⟨⟨(-2), x_slots_numbers_c, rfl, ⟨(by unfold paG; first | (rw [if_neg (by omega)]; done) | (rw [if_pos (by omega), if_pos (by omega)]; done) | (rw [if_pos (by omega), if_neg (by omega), if_neg (by omega)]; done) | (rw [if_pos (by omega), if_neg (by omega), if_pos (by omega), if_pos (by omega)]; done) | (rw [if_pos (by omega), if_neg (by omega), if_pos (by omega), if_neg (by omega)]; done)), (show ir ((-2) : Int32).toInt (-8) 0 by decide)⟩, ⟨by rw [ht]; exact hP9, va_K.moved hW.alike hK, hD9⟩⟩, hS.F ht⟩) hS.2.2 dX11_paste_18
  subst er2
  have fc2_0 : 0 ≤ p0.toInt := fc2_0
  have r2_0b : ir p0.toInt 0 2147483647 := ir_leb fc2_0 (ir_c 0) (rg_all p0) (by decide)
  have fc2_1 : p0.toInt < 4 := fc2_1
  have r2_1a : ir p0.toInt 0 3 := ir_lta fc2_1 r2_0b (ir_c 4) (by decide)
  refine lv_if_eq (tgt := 16) hx hb dX11_paste_5 (by decide) (fun c => absurd c (by decide)) (fun _ => ?_)
  refine lv_iload_n hx hb dX11_paste_8 rfl (lv_at hl 3 rfl) ?_
  refine lv_iconst (v := 4) hx hb dX11_paste_9 (by decide) ?_
  refine ro_i (va_runS (As := [.int p2, .int 4]) (rest := []) ⟨hx, hb, hml, hown, hts⟩ (q_X11_isBelowN l g cI cJ cB cZ cL p2 4 H.size ) (va_cwS 2 hts (goodIn_app (g_3 (List.mem_cons_of_mem _ (List.mem_append_left _ (List.mem_of_getElem? (i := 0) rfl))) (List.mem_cons_of_mem _ (List.mem_append_left _ (List.mem_of_getElem? (i := 1) rfl))) (List.mem_cons_of_mem _ (List.mem_append_left _ (List.mem_of_getElem? (i := 2) rfl))) (by decide +kernel)) (goodIn_sub (fun _ h => List.mem_cons_of_mem _ (List.mem_append_right _ (List.mem_append_left _ h))) good_v_X11_isBelowN)) rfl rfl rfl (by decide +kernel) ⟨Nat.le_of_ble_eq_true rfl, Nat.le_of_ble_eq_true rfl⟩) (ps_RO (wc := []) hK hP [] rfl) rfl rfl hl.1 rfl (lv_room (Nat.le_of_ble_eq_true rfl)) dX11_paste_10 ⟨Nat.le_of_ble_eq_true rfl, Nat.le_of_ble_eq_true rfl⟩) hS hA hP (fun r10 u10 H locs hw10 hP hS => ?_)
  have hw10_0 := hw10
  rcases hw10_0 with ⟨er10, fc10_0, fc10_1⟩ | ⟨er10, fc10_0⟩
  rotate_left 1
  · subst er10
    have fc10_0 : ¬ (0 ≤ p2.toInt ∧ p2.toInt < 4) := fc10_0
    refine lv_if_ne (tgt := 19) hx hb dX11_paste_13 (by decide) (fun c => absurd c (by decide)) (fun _ => ?_)
    refine lv_bipush (v := (-2)) hx hb dX11_paste_16 (by decide) ?_
    subst hQ
    have hP9 := hP.sub (ws' := [(x, .inr (10, [.ref x_tape, .ref x_land, .ref x_images, .ref x_book, .ref x_course, .ref x_fates, .ref x_chances, .ref x_will, .ref x_slots, .ref x_seen, .ref x_drawn])), (x_slots, .inr (7, [.ref x_slots_width, .ref x_slots_size, .ref x_slots_numbers])), (x_slots_size, .inl (cI, 4, .inl x_slots_size_c)), (x_slots_width, .inl (cI, 4, .inl x_slots_width_c)), (x_slots_numbers, .inl (cJ, 240, .inr (.inl x_slots_numbers_c)))]) [0, 1, 2, 3, 4] rfl
    have hD9 := hD.sub (ws' := [(x, .inr (10, [.ref x_tape, .ref x_land, .ref x_images, .ref x_book, .ref x_course, .ref x_fates, .ref x_chances, .ref x_will, .ref x_slots, .ref x_seen, .ref x_drawn])), (x_slots, .inr (7, [.ref x_slots_width, .ref x_slots_size, .ref x_slots_numbers])), (x_slots_size, .inl (cI, 4, .inl x_slots_size_c)), (x_slots_width, .inl (cI, 4, .inl x_slots_width_c)), (x_slots_numbers, .inl (cJ, 240, .inr (.inl x_slots_numbers_c)))]) [0, 1, 2, 3, 4] (by decide) rfl
    exact W.iret (v := (-2)) hx hb hr (fun t ht hW => ⟨⟨(-2), x_slots_numbers_c, rfl, ⟨(by unfold paG; first | (rw [if_neg (by omega)]; done) | (rw [if_pos (by omega), if_pos (by omega)]; done) | (rw [if_pos (by omega), if_neg (by omega), if_neg (by omega)]; done) | (rw [if_pos (by omega), if_neg (by omega), if_pos (by omega), if_pos (by omega)]; done) | (rw [if_pos (by omega), if_neg (by omega), if_pos (by omega), if_neg (by omega)]; done)), (show ir ((-2) : Int32).toInt (-8) 0 by decide)⟩, ⟨by rw [ht]; exact hP9, va_K.moved hW.alike hK, hD9⟩⟩, hS.F ht⟩) hS.2.2 dX11_paste_18
  subst er10
  have fc10_0 : 0 ≤ p2.toInt := fc10_0
  have r10_0b : ir p2.toInt 0 2147483647 := ir_leb fc10_0 (ir_c 0) (rg_all p2) (by decide)
  have fc10_1 : p2.toInt < 4 := fc10_1
  have r10_1a : ir p2.toInt 0 3 := ir_lta fc10_1 r10_0b (ir_c 4) (by decide)
  refine lv_if_ne (tgt := 19) hx hb dX11_paste_13 (by decide) (fun _ => ?_) (fun c => absurd c (by decide))
  refine lv_aload_n hx hb dX11_paste_19 rfl (lv_at hl 0 rfl) ?_
  refine va_get (D := g) (ci := 10) (v := .ref x_slots) (C := RX11) (T := TX11) (N := 11) hx hb hts iX11 hown hK hP 0 rfl rfl 8 (by decide) (hts (.fieldLink RX11 65 "CardsAtYule" "slots" "LCardsAtYule$Slots;") (List.mem_cons_of_mem _ (List.mem_append_left _ (List.mem_of_getElem? (i := 3) rfl)))) (fun _ h9 => h9) rfl dX11_paste_20 ?_
  refine lv_iload_n hx hb dX11_paste_23 rfl (lv_at hl 1 rfl) ?_
  refine ro_i (va_runV (As := [.int p0]) (rest := []) ⟨hx, hb, hml, hown, hts⟩ (q_X7_hasF l g cI cJ cB cZ cL p0 x_slots x_slots_width x_slots_size x_slots_numbers x_slots_size_c H.size r2_1a ha_x_slots_size_c) (cwV 1 hts (goodIn_app (g_4 (List.mem_cons_of_mem _ (List.mem_append_left _ (List.mem_of_getElem? (i := 4) rfl))) (List.mem_cons_of_mem _ (List.mem_append_left _ (List.mem_of_getElem? (i := 5) rfl))) (List.mem_cons_of_mem _ (List.mem_append_left _ (List.mem_of_getElem? (i := 6) rfl))) (List.mem_cons_of_mem _ (List.mem_append_left _ (List.mem_of_getElem? (i := 7) rfl))) (by decide +kernel)) (goodIn_sub (fun _ h => List.mem_cons_of_mem _ (List.mem_append_right _ (List.mem_append_right _ (List.mem_append_left _ h)))) good_v_X7_hasF)) rfl rfl rfl (by decide +kernel) ⟨Nat.le_of_ble_eq_true rfl, Nat.le_of_ble_eq_true rfl⟩) (pv_RO (q := (RX7, TX7, 3)) (ci := 7) (q0 := 0) (wc := [(x_slots, .inr (7, [.ref x_slots_width, .ref x_slots_size, .ref x_slots_numbers])), (x_slots_size, .inl (cI, 4, .inl x_slots_size_c))]) hK hP [1, 2] rfl rfl rfl) rfl rfl hl.1 rfl (lv_room (Nat.le_of_ble_eq_true rfl)) dX11_paste_24 ⟨Nat.le_of_ble_eq_true rfl, Nat.le_of_ble_eq_true rfl⟩) hS hA hP (fun r24 u24 H locs hw24 hP hS => ?_)
  have hw24_0 := hw24
  rcases hw24_0 with ⟨er24, fc24_0⟩ | ⟨er24, fc24_0⟩
  rotate_left 1
  · subst er24
    have fc24_0 : (x_slots_size_c p0.toNatClampNeg).toInt = -1 := fc24_0
    refine lv_if_eq (tgt := 41) hx hb dX11_paste_27 (by decide) (fun _ => ?_) (fun c => absurd c (by decide))
    refine lv_bipush (v := (-6)) hx hb dX11_paste_41 (by decide) ?_
    subst hQ
    have hP9 := hP.sub (ws' := [(x, .inr (10, [.ref x_tape, .ref x_land, .ref x_images, .ref x_book, .ref x_course, .ref x_fates, .ref x_chances, .ref x_will, .ref x_slots, .ref x_seen, .ref x_drawn])), (x_slots, .inr (7, [.ref x_slots_width, .ref x_slots_size, .ref x_slots_numbers])), (x_slots_size, .inl (cI, 4, .inl x_slots_size_c)), (x_slots_width, .inl (cI, 4, .inl x_slots_width_c)), (x_slots_numbers, .inl (cJ, 240, .inr (.inl x_slots_numbers_c)))]) [0, 1, 2, 3, 4] rfl
    have hD9 := hD.sub (ws' := [(x, .inr (10, [.ref x_tape, .ref x_land, .ref x_images, .ref x_book, .ref x_course, .ref x_fates, .ref x_chances, .ref x_will, .ref x_slots, .ref x_seen, .ref x_drawn])), (x_slots, .inr (7, [.ref x_slots_width, .ref x_slots_size, .ref x_slots_numbers])), (x_slots_size, .inl (cI, 4, .inl x_slots_size_c)), (x_slots_width, .inl (cI, 4, .inl x_slots_width_c)), (x_slots_numbers, .inl (cJ, 240, .inr (.inl x_slots_numbers_c)))]) [0, 1, 2, 3, 4] (by decide) rfl
    exact W.iret (v := (-6)) hx hb hr (fun t ht hW => ⟨⟨(-6), x_slots_numbers_c, rfl, ⟨(by unfold paG; first | (rw [if_neg (by omega)]; done) | (rw [if_pos (by omega), if_pos (by omega)]; done) | (rw [if_pos (by omega), if_neg (by omega), if_neg (by omega)]; done) | (rw [if_pos (by omega), if_neg (by omega), if_pos (by omega), if_pos (by omega)]; done) | (rw [if_pos (by omega), if_neg (by omega), if_pos (by omega), if_neg (by omega)]; done)), (show ir ((-6) : Int32).toInt (-8) 0 by decide)⟩, ⟨by rw [ht]; exact hP9, va_K.moved hW.alike hK, hD9⟩⟩, hS.F ht⟩) hS.2.2 dX11_paste_43
  subst er24
  have fc24_0 : (x_slots_size_c p0.toNatClampNeg).toInt ≠ -1 := fc24_0
  refine lv_if_eq (tgt := 41) hx hb dX11_paste_27 (by decide) (fun c => absurd c (by decide)) (fun _ => ?_)
  refine lv_aload_n hx hb dX11_paste_30 rfl (lv_at hl 0 rfl) ?_
  refine va_get (D := g) (ci := 10) (v := .ref x_slots) (C := RX11) (T := TX11) (N := 11) hx hb hts iX11 hown hK hP 0 rfl rfl 8 (by decide) (hts (.fieldLink RX11 65 "CardsAtYule" "slots" "LCardsAtYule$Slots;") (List.mem_cons_of_mem _ (List.mem_append_left _ (List.mem_of_getElem? (i := 3) rfl)))) (fun _ h9 => h9) rfl dX11_paste_31 ?_
  refine lv_iload_n hx hb dX11_paste_34 rfl (lv_at hl 3 rfl) ?_
  refine ro_i (va_runV (As := [.int p2]) (rest := []) ⟨hx, hb, hml, hown, hts⟩ (q_X7_hasF l g cI cJ cB cZ cL p2 x_slots x_slots_width x_slots_size x_slots_numbers x_slots_size_c H.size r10_1a ha_x_slots_size_c) (cwV 1 hts (goodIn_app (g_4 (List.mem_cons_of_mem _ (List.mem_append_left _ (List.mem_of_getElem? (i := 4) rfl))) (List.mem_cons_of_mem _ (List.mem_append_left _ (List.mem_of_getElem? (i := 5) rfl))) (List.mem_cons_of_mem _ (List.mem_append_left _ (List.mem_of_getElem? (i := 6) rfl))) (List.mem_cons_of_mem _ (List.mem_append_left _ (List.mem_of_getElem? (i := 7) rfl))) (by decide +kernel)) (goodIn_sub (fun _ h => List.mem_cons_of_mem _ (List.mem_append_right _ (List.mem_append_right _ (List.mem_append_left _ h)))) good_v_X7_hasF)) rfl rfl rfl (by decide +kernel) ⟨Nat.le_of_ble_eq_true rfl, Nat.le_of_ble_eq_true rfl⟩) (pv_RO (q := (RX7, TX7, 3)) (ci := 7) (q0 := 0) (wc := [(x_slots, .inr (7, [.ref x_slots_width, .ref x_slots_size, .ref x_slots_numbers])), (x_slots_size, .inl (cI, 4, .inl x_slots_size_c))]) hK hP [1, 2] rfl rfl rfl) rfl rfl hl.1 rfl (lv_room (Nat.le_of_ble_eq_true rfl)) dX11_paste_35 ⟨Nat.le_of_ble_eq_true rfl, Nat.le_of_ble_eq_true rfl⟩) hS hA hP (fun r35 u35 H locs hw35 hP hS => ?_)
  have hw35_0 := hw35
  rcases hw35_0 with ⟨er35, fc35_0⟩ | ⟨er35, fc35_0⟩
  rotate_left 1
  · subst er35
    have fc35_0 : (x_slots_size_c p2.toNatClampNeg).toInt = -1 := fc35_0
    refine lv_if_ne (tgt := 44) hx hb dX11_paste_38 (by decide) (fun c => absurd c (by decide)) (fun _ => ?_)
    refine lv_bipush (v := (-6)) hx hb dX11_paste_41 (by decide) ?_
    subst hQ
    have hP9 := hP.sub (ws' := [(x, .inr (10, [.ref x_tape, .ref x_land, .ref x_images, .ref x_book, .ref x_course, .ref x_fates, .ref x_chances, .ref x_will, .ref x_slots, .ref x_seen, .ref x_drawn])), (x_slots, .inr (7, [.ref x_slots_width, .ref x_slots_size, .ref x_slots_numbers])), (x_slots_size, .inl (cI, 4, .inl x_slots_size_c)), (x_slots_width, .inl (cI, 4, .inl x_slots_width_c)), (x_slots_numbers, .inl (cJ, 240, .inr (.inl x_slots_numbers_c)))]) [0, 1, 2, 3, 4] rfl
    have hD9 := hD.sub (ws' := [(x, .inr (10, [.ref x_tape, .ref x_land, .ref x_images, .ref x_book, .ref x_course, .ref x_fates, .ref x_chances, .ref x_will, .ref x_slots, .ref x_seen, .ref x_drawn])), (x_slots, .inr (7, [.ref x_slots_width, .ref x_slots_size, .ref x_slots_numbers])), (x_slots_size, .inl (cI, 4, .inl x_slots_size_c)), (x_slots_width, .inl (cI, 4, .inl x_slots_width_c)), (x_slots_numbers, .inl (cJ, 240, .inr (.inl x_slots_numbers_c)))]) [0, 1, 2, 3, 4] (by decide) rfl
    exact W.iret (v := (-6)) hx hb hr (fun t ht hW => ⟨⟨(-6), x_slots_numbers_c, rfl, ⟨(by unfold paG; first | (rw [if_neg (by omega)]; done) | (rw [if_pos (by omega), if_pos (by omega)]; done) | (rw [if_pos (by omega), if_neg (by omega), if_neg (by omega)]; done) | (rw [if_pos (by omega), if_neg (by omega), if_pos (by omega), if_pos (by omega)]; done) | (rw [if_pos (by omega), if_neg (by omega), if_pos (by omega), if_neg (by omega)]; done)), (show ir ((-6) : Int32).toInt (-8) 0 by decide)⟩, ⟨by rw [ht]; exact hP9, va_K.moved hW.alike hK, hD9⟩⟩, hS.F ht⟩) hS.2.2 dX11_paste_43
  subst er35
  have fc35_0 : (x_slots_size_c p2.toNatClampNeg).toInt ≠ -1 := fc35_0
  refine lv_if_ne (tgt := 44) hx hb dX11_paste_38 (by decide) (fun _ => ?_) (fun c => absurd c (by decide))
  refine lv_aload_n hx hb dX11_paste_44 rfl (lv_at hl 0 rfl) ?_
  refine va_get (D := g) (ci := 10) (v := .ref x_slots) (C := RX11) (T := TX11) (N := 11) hx hb hts iX11 hown hK hP 0 rfl rfl 8 (by decide) (hts (.fieldLink RX11 65 "CardsAtYule" "slots" "LCardsAtYule$Slots;") (List.mem_cons_of_mem _ (List.mem_append_left _ (List.mem_of_getElem? (i := 3) rfl)))) (fun _ h9 => h9) rfl dX11_paste_45 ?_
  refine va_get (D := g) (ci := 7) (v := .ref x_slots_width) (C := RX7) (T := TX7) (N := 3) hx hb hts iX7 hown hK hP 1 rfl rfl 0 (by decide) (hts (.fieldLink RX11 401 "CardsAtYule$Slots" "width" "[I") (List.mem_cons_of_mem _ (List.mem_append_left _ (List.mem_of_getElem? (i := 8) rfl)))) (fun _ h9 => h9) rfl dX11_paste_48 ?_
  refine lv_iload_n hx hb dX11_paste_51 rfl (lv_at hl 1 rfl) ?_
  refine va_iald (D := g) hx hb hK hP 3 0 rfl rfl (vi_rg rfl r2_1a (by decide) (by decide)) dX11_paste_52 ?_
  refine lv_aload_n hx hb dX11_paste_53 rfl (lv_at hl 0 rfl) ?_
  refine va_get (D := g) (ci := 10) (v := .ref x_slots) (C := RX11) (T := TX11) (N := 11) hx hb hts iX11 hown hK hP 0 rfl rfl 8 (by decide) (hts (.fieldLink RX11 65 "CardsAtYule" "slots" "LCardsAtYule$Slots;") (List.mem_cons_of_mem _ (List.mem_append_left _ (List.mem_of_getElem? (i := 3) rfl)))) (fun _ h9 => h9) rfl dX11_paste_54 ?_
  refine va_get (D := g) (ci := 7) (v := .ref x_slots_width) (C := RX7) (T := TX7) (N := 3) hx hb hts iX7 hown hK hP 1 rfl rfl 0 (by decide) (hts (.fieldLink RX11 401 "CardsAtYule$Slots" "width" "[I") (List.mem_cons_of_mem _ (List.mem_append_left _ (List.mem_of_getElem? (i := 8) rfl)))) (fun _ h9 => h9) rfl dX11_paste_57 ?_
  refine lv_iload_n hx hb dX11_paste_60 rfl (lv_at hl 3 rfl) ?_
  refine va_iald (D := g) hx hb hK hP 3 0 rfl rfl (vi_rg rfl r10_1a (by decide) (by decide)) dX11_paste_61 ?_
  refine lv_icmp_eq (tgt := 68) hx hb dX11_paste_62 (by decide) (fun c62 => ?_) (fun c62 => ?_)
  rotate_left 1
  · have f62 := (show (x_slots_width_c p0.toNatClampNeg).toInt ≠ (x_slots_width_c p2.toNatClampNeg).toInt from z_ne rfl rfl c62)
    refine lv_bipush (v := (-8)) hx hb dX11_paste_65 (by decide) ?_
    subst hQ
    have hP9 := hP.sub (ws' := [(x, .inr (10, [.ref x_tape, .ref x_land, .ref x_images, .ref x_book, .ref x_course, .ref x_fates, .ref x_chances, .ref x_will, .ref x_slots, .ref x_seen, .ref x_drawn])), (x_slots, .inr (7, [.ref x_slots_width, .ref x_slots_size, .ref x_slots_numbers])), (x_slots_size, .inl (cI, 4, .inl x_slots_size_c)), (x_slots_width, .inl (cI, 4, .inl x_slots_width_c)), (x_slots_numbers, .inl (cJ, 240, .inr (.inl x_slots_numbers_c)))]) [0, 1, 2, 3, 4] rfl
    have hD9 := hD.sub (ws' := [(x, .inr (10, [.ref x_tape, .ref x_land, .ref x_images, .ref x_book, .ref x_course, .ref x_fates, .ref x_chances, .ref x_will, .ref x_slots, .ref x_seen, .ref x_drawn])), (x_slots, .inr (7, [.ref x_slots_width, .ref x_slots_size, .ref x_slots_numbers])), (x_slots_size, .inl (cI, 4, .inl x_slots_size_c)), (x_slots_width, .inl (cI, 4, .inl x_slots_width_c)), (x_slots_numbers, .inl (cJ, 240, .inr (.inl x_slots_numbers_c)))]) [0, 1, 2, 3, 4] (by decide) rfl
    exact W.iret (v := (-8)) hx hb hr (fun t ht hW => ⟨⟨(-8), x_slots_numbers_c, rfl, ⟨(by unfold paG; first | (rw [if_neg (by omega)]; done) | (rw [if_pos (by omega), if_pos (by omega)]; done) | (rw [if_pos (by omega), if_neg (by omega), if_neg (by omega)]; done) | (rw [if_pos (by omega), if_neg (by omega), if_pos (by omega), if_pos (by omega)]; done) | (rw [if_pos (by omega), if_neg (by omega), if_pos (by omega), if_neg (by omega)]; done)), (show ir ((-8) : Int32).toInt (-8) 0 by decide)⟩, ⟨by rw [ht]; exact hP9, va_K.moved hW.alike hK, hD9⟩⟩, hS.F ht⟩) hS.2.2 dX11_paste_67
  have f62 := (show (x_slots_width_c p0.toNatClampNeg).toInt = (x_slots_width_c p2.toNatClampNeg).toInt from z_eq rfl rfl c62)
  refine lv_aload_n hx hb dX11_paste_68 rfl (lv_at hl 0 rfl) ?_
  refine va_get (D := g) (ci := 10) (v := .ref x_slots) (C := RX11) (T := TX11) (N := 11) hx hb hts iX11 hown hK hP 0 rfl rfl 8 (by decide) (hts (.fieldLink RX11 65 "CardsAtYule" "slots" "LCardsAtYule$Slots;") (List.mem_cons_of_mem _ (List.mem_append_left _ (List.mem_of_getElem? (i := 3) rfl)))) (fun _ h9 => h9) rfl dX11_paste_69 ?_
  refine lv_iload_n hx hb dX11_paste_72 rfl (lv_at hl 1 rfl) ?_
  refine lv_iload_n hx hb dX11_paste_73 rfl (lv_at hl 2 rfl) ?_
  refine lv_iload hx hb dX11_paste_74 (lv_at hl 5 rfl) ?_
  refine ro_i (va_runV (As := [.int p0, .int p1, .int p4]) (rest := []) ⟨hx, hb, hml, hown, hts⟩ (q_X7_holdsF l g cI cJ cB cZ cL p0 p1 p4 x_slots x_slots_width x_slots_size x_slots_numbers x_slots_size_c H.size r2_1a ha_x_slots_size_c) (cwV 3 hts (goodIn_app (g_4 (List.mem_cons_of_mem _ (List.mem_append_left _ (List.mem_of_getElem? (i := 9) rfl))) (List.mem_cons_of_mem _ (List.mem_append_left _ (List.mem_of_getElem? (i := 10) rfl))) (List.mem_cons_of_mem _ (List.mem_append_left _ (List.mem_of_getElem? (i := 11) rfl))) (List.mem_cons_of_mem _ (List.mem_append_left _ (List.mem_of_getElem? (i := 7) rfl))) (by decide +kernel)) (goodIn_sub (fun _ h => List.mem_cons_of_mem _ (List.mem_append_right _ (List.mem_append_right _ (List.mem_append_right _ (List.mem_append_left _ h))))) good_v_X7_holdsF)) rfl rfl rfl (by decide +kernel) ⟨Nat.le_of_ble_eq_true rfl, Nat.le_of_ble_eq_true rfl⟩) (pv_RO (q := (RX7, TX7, 3)) (ci := 7) (q0 := 0) (wc := [(x_slots, .inr (7, [.ref x_slots_width, .ref x_slots_size, .ref x_slots_numbers])), (x_slots_size, .inl (cI, 4, .inl x_slots_size_c))]) hK hP [1, 2] rfl rfl rfl) rfl rfl hl.1 rfl (lv_room (Nat.le_of_ble_eq_true rfl)) dX11_paste_76 ⟨Nat.le_of_ble_eq_true rfl, Nat.le_of_ble_eq_true rfl⟩) hS hA hP (fun r76 u76 H locs hw76 hP hS => ?_)
  have hw76_0 := hw76
  rcases hw76_0 with ⟨er76, fc76_0, fc76_1, fc76_2, fc76_3⟩ | ⟨er76, fc76_0⟩
  rotate_left 1
  · subst er76
    have fc76_0 : ¬ (0 ≤ p1.toInt ∧ 0 ≤ p4.toInt ∧ p1.toInt + p4.toInt ≤ (x_slots_size_c p0.toNatClampNeg).toInt) := fc76_0
    refine lv_if_eq (tgt := 97) hx hb dX11_paste_79 (by decide) (fun _ => ?_) (fun c => absurd c (by decide))
    refine lv_bipush (v := (-7)) hx hb dX11_paste_97 (by decide) ?_
    subst hQ
    have hP9 := hP.sub (ws' := [(x, .inr (10, [.ref x_tape, .ref x_land, .ref x_images, .ref x_book, .ref x_course, .ref x_fates, .ref x_chances, .ref x_will, .ref x_slots, .ref x_seen, .ref x_drawn])), (x_slots, .inr (7, [.ref x_slots_width, .ref x_slots_size, .ref x_slots_numbers])), (x_slots_size, .inl (cI, 4, .inl x_slots_size_c)), (x_slots_width, .inl (cI, 4, .inl x_slots_width_c)), (x_slots_numbers, .inl (cJ, 240, .inr (.inl x_slots_numbers_c)))]) [0, 1, 2, 3, 4] rfl
    have hD9 := hD.sub (ws' := [(x, .inr (10, [.ref x_tape, .ref x_land, .ref x_images, .ref x_book, .ref x_course, .ref x_fates, .ref x_chances, .ref x_will, .ref x_slots, .ref x_seen, .ref x_drawn])), (x_slots, .inr (7, [.ref x_slots_width, .ref x_slots_size, .ref x_slots_numbers])), (x_slots_size, .inl (cI, 4, .inl x_slots_size_c)), (x_slots_width, .inl (cI, 4, .inl x_slots_width_c)), (x_slots_numbers, .inl (cJ, 240, .inr (.inl x_slots_numbers_c)))]) [0, 1, 2, 3, 4] (by decide) rfl
    exact W.iret (v := (-7)) hx hb hr (fun t ht hW => ⟨⟨(-7), x_slots_numbers_c, rfl, ⟨(by unfold paG; first | (rw [if_neg (by omega)]; done) | (rw [if_pos (by omega), if_pos (by omega)]; done) | (rw [if_pos (by omega), if_neg (by omega), if_neg (by omega)]; done) | (rw [if_pos (by omega), if_neg (by omega), if_pos (by omega), if_pos (by omega)]; done) | (rw [if_pos (by omega), if_neg (by omega), if_pos (by omega), if_neg (by omega)]; done)), (show ir ((-7) : Int32).toInt (-8) 0 by decide)⟩, ⟨by rw [ht]; exact hP9, va_K.moved hW.alike hK, hD9⟩⟩, hS.F ht⟩) hS.2.2 dX11_paste_99
  subst er76
  have fc76_0 : 0 ≤ p1.toInt := fc76_0
  have r76_0b : ir p1.toInt 0 2147483647 := ir_leb fc76_0 (ir_c 0) (rg_all p1) (by decide)
  have fc76_1 : 0 ≤ p4.toInt := fc76_1
  have r76_1b : ir p4.toInt 0 2147483647 := ir_leb fc76_1 (ir_c 0) (rg_all p4) (by decide)
  have fc76_2 : p1.toInt + p4.toInt ≤ 60 := fc76_2
  have fc76_3 : p1.toInt + p4.toInt ≤ (x_slots_size_c p0.toNatClampNeg).toInt := fc76_3
  refine lv_if_eq (tgt := 97) hx hb dX11_paste_79 (by decide) (fun c => absurd c (by decide)) (fun _ => ?_)
  refine lv_aload_n hx hb dX11_paste_82 rfl (lv_at hl 0 rfl) ?_
  refine va_get (D := g) (ci := 10) (v := .ref x_slots) (C := RX11) (T := TX11) (N := 11) hx hb hts iX11 hown hK hP 0 rfl rfl 8 (by decide) (hts (.fieldLink RX11 65 "CardsAtYule" "slots" "LCardsAtYule$Slots;") (List.mem_cons_of_mem _ (List.mem_append_left _ (List.mem_of_getElem? (i := 3) rfl)))) (fun _ h9 => h9) rfl dX11_paste_83 ?_
  refine lv_iload_n hx hb dX11_paste_86 rfl (lv_at hl 3 rfl) ?_
  refine lv_iload hx hb dX11_paste_87 (lv_at hl 4 rfl) ?_
  refine lv_iload hx hb dX11_paste_89 (lv_at hl 5 rfl) ?_
  refine ro_i (va_runV (As := [.int p2, .int p3, .int p4]) (rest := []) ⟨hx, hb, hml, hown, hts⟩ (q_X7_holdsF l g cI cJ cB cZ cL p2 p3 p4 x_slots x_slots_width x_slots_size x_slots_numbers x_slots_size_c H.size r10_1a ha_x_slots_size_c) (cwV 3 hts (goodIn_app (g_4 (List.mem_cons_of_mem _ (List.mem_append_left _ (List.mem_of_getElem? (i := 9) rfl))) (List.mem_cons_of_mem _ (List.mem_append_left _ (List.mem_of_getElem? (i := 10) rfl))) (List.mem_cons_of_mem _ (List.mem_append_left _ (List.mem_of_getElem? (i := 11) rfl))) (List.mem_cons_of_mem _ (List.mem_append_left _ (List.mem_of_getElem? (i := 7) rfl))) (by decide +kernel)) (goodIn_sub (fun _ h => List.mem_cons_of_mem _ (List.mem_append_right _ (List.mem_append_right _ (List.mem_append_right _ (List.mem_append_left _ h))))) good_v_X7_holdsF)) rfl rfl rfl (by decide +kernel) ⟨Nat.le_of_ble_eq_true rfl, Nat.le_of_ble_eq_true rfl⟩) (pv_RO (q := (RX7, TX7, 3)) (ci := 7) (q0 := 0) (wc := [(x_slots, .inr (7, [.ref x_slots_width, .ref x_slots_size, .ref x_slots_numbers])), (x_slots_size, .inl (cI, 4, .inl x_slots_size_c))]) hK hP [1, 2] rfl rfl rfl) rfl rfl hl.1 rfl (lv_room (Nat.le_of_ble_eq_true rfl)) dX11_paste_91 ⟨Nat.le_of_ble_eq_true rfl, Nat.le_of_ble_eq_true rfl⟩) hS hA hP (fun r91 u91 H locs hw91 hP hS => ?_)
  have hw91_0 := hw91
  rcases hw91_0 with ⟨er91, fc91_0, fc91_1, fc91_2, fc91_3⟩ | ⟨er91, fc91_0⟩
  rotate_left 1
  · subst er91
    have fc91_0 : ¬ (0 ≤ p3.toInt ∧ 0 ≤ p4.toInt ∧ p3.toInt + p4.toInt ≤ (x_slots_size_c p2.toNatClampNeg).toInt) := fc91_0
    refine lv_if_ne (tgt := 100) hx hb dX11_paste_94 (by decide) (fun c => absurd c (by decide)) (fun _ => ?_)
    refine lv_bipush (v := (-7)) hx hb dX11_paste_97 (by decide) ?_
    subst hQ
    have hP9 := hP.sub (ws' := [(x, .inr (10, [.ref x_tape, .ref x_land, .ref x_images, .ref x_book, .ref x_course, .ref x_fates, .ref x_chances, .ref x_will, .ref x_slots, .ref x_seen, .ref x_drawn])), (x_slots, .inr (7, [.ref x_slots_width, .ref x_slots_size, .ref x_slots_numbers])), (x_slots_size, .inl (cI, 4, .inl x_slots_size_c)), (x_slots_width, .inl (cI, 4, .inl x_slots_width_c)), (x_slots_numbers, .inl (cJ, 240, .inr (.inl x_slots_numbers_c)))]) [0, 1, 2, 3, 4] rfl
    have hD9 := hD.sub (ws' := [(x, .inr (10, [.ref x_tape, .ref x_land, .ref x_images, .ref x_book, .ref x_course, .ref x_fates, .ref x_chances, .ref x_will, .ref x_slots, .ref x_seen, .ref x_drawn])), (x_slots, .inr (7, [.ref x_slots_width, .ref x_slots_size, .ref x_slots_numbers])), (x_slots_size, .inl (cI, 4, .inl x_slots_size_c)), (x_slots_width, .inl (cI, 4, .inl x_slots_width_c)), (x_slots_numbers, .inl (cJ, 240, .inr (.inl x_slots_numbers_c)))]) [0, 1, 2, 3, 4] (by decide) rfl
    exact W.iret (v := (-7)) hx hb hr (fun t ht hW => ⟨⟨(-7), x_slots_numbers_c, rfl, ⟨(by unfold paG; first | (rw [if_neg (by omega)]; done) | (rw [if_pos (by omega), if_pos (by omega)]; done) | (rw [if_pos (by omega), if_neg (by omega), if_neg (by omega)]; done) | (rw [if_pos (by omega), if_neg (by omega), if_pos (by omega), if_pos (by omega)]; done) | (rw [if_pos (by omega), if_neg (by omega), if_pos (by omega), if_neg (by omega)]; done)), (show ir ((-7) : Int32).toInt (-8) 0 by decide)⟩, ⟨by rw [ht]; exact hP9, va_K.moved hW.alike hK, hD9⟩⟩, hS.F ht⟩) hS.2.2 dX11_paste_99
  subst er91
  have fc91_0 : 0 ≤ p3.toInt := fc91_0
  have r91_0b : ir p3.toInt 0 2147483647 := ir_leb fc91_0 (ir_c 0) (rg_all p3) (by decide)
  have fc91_1 : 0 ≤ p4.toInt := fc91_1
  have fc91_2 : p3.toInt + p4.toInt ≤ 60 := fc91_2
  have fc91_3 : p3.toInt + p4.toInt ≤ (x_slots_size_c p2.toNatClampNeg).toInt := fc91_3
  refine lv_if_ne (tgt := 100) hx hb dX11_paste_94 (by decide) (fun _ => ?_) (fun c => absurd c (by decide))
  refine lv_aload_n hx hb dX11_paste_100 rfl (lv_at hl 0 rfl) ?_
  refine va_get (D := g) (ci := 10) (v := .ref x_slots) (C := RX11) (T := TX11) (N := 11) hx hb hts iX11 hown hK hP 0 rfl rfl 8 (by decide) (hts (.fieldLink RX11 65 "CardsAtYule" "slots" "LCardsAtYule$Slots;") (List.mem_cons_of_mem _ (List.mem_append_left _ (List.mem_of_getElem? (i := 3) rfl)))) (fun _ h9 => h9) rfl dX11_paste_101 ?_
  refine lv_iload_n hx hb dX11_paste_104 rfl (lv_at hl 1 rfl) ?_
  refine lv_iload_n hx hb dX11_paste_105 rfl (lv_at hl 2 rfl) ?_
  refine lv_iload_n hx hb dX11_paste_106 rfl (lv_at hl 3 rfl) ?_
  refine lv_iload hx hb dX11_paste_107 (lv_at hl 4 rfl) ?_
  refine lv_iload hx hb dX11_paste_109 (lv_at hl 5 rfl) ?_
  refine rw_v (wr := [(x, .inr (10, [.ref x_tape, .ref x_land, .ref x_images, .ref x_book, .ref x_course, .ref x_fates, .ref x_chances, .ref x_will, .ref x_slots, .ref x_seen, .ref x_drawn])), (x_slots_size, .inl (cI, 4, .inl x_slots_size_c)), (x_slots_width, .inl (cI, 4, .inl x_slots_width_c))]) (va_runV (As := [.int p0, .int p1, .int p2, .int p3, .int p4]) (rest := []) ⟨hx, hb, hml, hown, hts⟩ (q_X7_copy l g cI cJ cB cZ cL p0 p1 p2 p3 p4 x_slots x_slots_width x_slots_size x_slots_numbers x_slots_numbers_c H.size r2_1a (by omega) r10_1a (by omega) (by omega) (by omega) (by omega)) (cwV 5 hts (goodIn_app (g_4 (List.mem_cons_of_mem _ (List.mem_append_left _ (List.mem_of_getElem? (i := 12) rfl))) (List.mem_cons_of_mem _ (List.mem_append_left _ (List.mem_of_getElem? (i := 13) rfl))) (List.mem_cons_of_mem _ (List.mem_append_left _ (List.mem_of_getElem? (i := 14) rfl))) (List.mem_cons_of_mem _ (List.mem_append_left _ (List.mem_of_getElem? (i := 7) rfl))) (by decide +kernel)) (goodIn_sub (fun _ h => List.mem_cons_of_mem _ (List.mem_append_right _ (List.mem_append_right _ (List.mem_append_right _ (List.mem_append_right _ (List.mem_append_left _ h)))))) good_v_X7_copy)) rfl rfl rfl (by decide +kernel) ⟨Nat.le_of_ble_eq_true rfl, Nat.le_of_ble_eq_true rfl⟩) (pv_RW (q := (RX7, TX7, 3)) (ci := 7) (q0 := 0) (wc := [(x_slots, .inr (7, [.ref x_slots_width, .ref x_slots_size, .ref x_slots_numbers])), (x_slots_numbers, .inl (cJ, 240, .inr (.inl x_slots_numbers_c)))]) hK hP hD [1, 4] (by decide) rfl rfl rfl) rfl rfl hl.1 rfl (lv_room (Nat.le_of_ble_eq_true rfl)) dX11_paste_111 ⟨Nat.le_of_ble_eq_true rfl, Nat.le_of_ble_eq_true rfl⟩) hS hA hP hD [1, 4] [0, 2, 3] rfl rfl (by decide) (by decide) (fun u111 H locs hw111 hP hD hS => ?_)
  generalize u111 = n_sl_numbers_c_111 at hw111 hP hD
  have hP : va_P g vwCl [(x, .inr (10, [.ref x_tape, .ref x_land, .ref x_images, .ref x_book, .ref x_course, .ref x_fates, .ref x_chances, .ref x_will, .ref x_slots, .ref x_seen, .ref x_drawn])), (x_slots_size, .inl (cI, 4, .inl x_slots_size_c)), (x_slots_width, .inl (cI, 4, .inl x_slots_width_c)), (x_slots, .inr (7, [.ref x_slots_width, .ref x_slots_size, .ref x_slots_numbers])), (x_slots_numbers, .inl (cJ, 240, .inr (.inl n_sl_numbers_c_111)))] H := hP
  have hD : va_D A [(x, .inr (10, [.ref x_tape, .ref x_land, .ref x_images, .ref x_book, .ref x_course, .ref x_fates, .ref x_chances, .ref x_will, .ref x_slots, .ref x_seen, .ref x_drawn])), (x_slots_size, .inl (cI, 4, .inl x_slots_size_c)), (x_slots_width, .inl (cI, 4, .inl x_slots_width_c)), (x_slots, .inr (7, [.ref x_slots_width, .ref x_slots_size, .ref x_slots_numbers])), (x_slots_numbers, .inl (cJ, 240, .inr (.inl n_sl_numbers_c_111)))] := hD
  refine lv_iconst (v := 0) hx hb dX11_paste_114 (by decide) ?_
  subst hQ
  have hP9 := hP.sub (ws' := [(x, .inr (10, [.ref x_tape, .ref x_land, .ref x_images, .ref x_book, .ref x_course, .ref x_fates, .ref x_chances, .ref x_will, .ref x_slots, .ref x_seen, .ref x_drawn])), (x_slots, .inr (7, [.ref x_slots_width, .ref x_slots_size, .ref x_slots_numbers])), (x_slots_size, .inl (cI, 4, .inl x_slots_size_c)), (x_slots_width, .inl (cI, 4, .inl x_slots_width_c)), (x_slots_numbers, .inl (cJ, 240, .inr (.inl n_sl_numbers_c_111)))]) [0, 3, 1, 2, 4] rfl
  have hD9 := hD.sub (ws' := [(x, .inr (10, [.ref x_tape, .ref x_land, .ref x_images, .ref x_book, .ref x_course, .ref x_fates, .ref x_chances, .ref x_will, .ref x_slots, .ref x_seen, .ref x_drawn])), (x_slots, .inr (7, [.ref x_slots_width, .ref x_slots_size, .ref x_slots_numbers])), (x_slots_size, .inl (cI, 4, .inl x_slots_size_c)), (x_slots_width, .inl (cI, 4, .inl x_slots_width_c)), (x_slots_numbers, .inl (cJ, 240, .inr (.inl n_sl_numbers_c_111)))]) [0, 3, 1, 2, 4] (by decide) rfl
  exact W.iret (v := 0) hx hb hr (fun t ht hW => ⟨⟨0, n_sl_numbers_c_111, rfl, ⟨(by unfold paG; first | (rw [if_neg (by omega)]; done) | (rw [if_pos (by omega), if_pos (by omega)]; done) | (rw [if_pos (by omega), if_neg (by omega), if_neg (by omega)]; done) | (rw [if_pos (by omega), if_neg (by omega), if_pos (by omega), if_pos (by omega)]; done) | (rw [if_pos (by omega), if_neg (by omega), if_pos (by omega), if_neg (by omega)]; done)), (show ir (0 : Int32).toInt (-8) 0 by decide)⟩, ⟨by rw [ht]; exact hP9, va_K.moved hW.alike hK, hD9⟩⟩, hS.F ht⟩) hS.2.2 dX11_paste_115
def v_X12_inN : List Cond := .code yX12_in cX12_in 6 (some .boolean) :: (([] : List Cond) ++ ([] : List Cond))
theorem good_v_X12_inN : v_X12_inN.all goodWord = true := ga_c (by decide +kernel) (ga_a (by decide +kernel) rfl)
set_option maxHeartbeats 4000000 in
set_option maxRecDepth 100000 in
theorem q_X12_inN (l : Launch) (g : va_G) (cI cJ cB cZ cL : ClassId) (p0 : Int64) (ip0 : Int) (p1 : Int64) (ip1 : Int) (p2 : Int64) (ip2 : Int) (sz : Nat) (hz0 : p0.toInt = ip0) (hz1 : p1.toInt = ip1) (hz2 : p2.toInt = ip2) : Met l yX12_in v_X12_inN ({ frames := 0, cells := 0, slots := 0, locals := 0 }) (va_Pc [.long p0, .long p1, .long p2] (pRO g (tyT cI cJ cB cZ cL) [] sz)) (va_Qi (fun (r : Int32) (u : Unit) => ((r = 1 ∧ ip1 ≤ ip0 ∧ ip0 ≤ ip2) ∨ (r = 0 ∧ ¬ (ip1 ≤ ip0 ∧ ip0 ≤ ip2)))) (fun (_ : Unit) (_ : State) => True) (va_A [] sz)) 0 0 (va_A [] sz) := by
  refine Met.ofW (cc := cX12_in) (maxL := 6) (ret := (some .boolean)) (by decide) rfl ?_
  intro p e s mth args below meth c s₁ B hml hv
  obtain ⟨rfl, hsz, hP, hK⟩ := hv
  have hx := B.exec
  have hb := B.bytes
  have hr := B.returns
  have hts := atoms_spec (ws := v_X12_inN) B.pre
  have hown : s.vm.findClass RX12 = some mth.cls := findClass_of_methodNamed B.named
  have hlocks := B.notSynchronized
  clear B
  subst hsz
  generalize hAe : (va_A [] s.heap.size) = A
  have hA : ∀ q : Nat, s.heap.size ≤ q → A q := fun q h => by rw [← hAe]; exact Or.inr h
  have hS : va_S A s.heap s.heap [] := va_S.rf
  have hl := lv_entry ([.long p0, .long p1, .long p2]) (n := 6) (Nat.le_of_ble_eq_true rfl)
  rw [lg_entry_eq]
  generalize (lg_sl ([.long p0, .long p1, .long p2]) ++ List.replicate (6 - (lg_sl ([.long p0, .long p1, .long p2])).length) Slot.unset).toArray = ls at hl ⊢
  generalize ([.long p0, .long p1, .long p2] : List Value).toArray = av at hts ⊢
  generalize hQ : MQ below _ av s _ _ A = QQ
  have hl : lv_has ls 6 [(0, .long p0), (2, .long p1), (4, .long p2)] := hl
  have hP : va_P g vwCl [] s.heap := hP
  refine lv_lload_n hx hb dX12_in_0 rfl (lv_at hl 0 rfl) ?_
  refine lv_lload_n hx hb dX12_in_1 rfl (lv_at hl 1 rfl) ?_
  refine W.lcmp hx hb dX12_in_2 ?_
  refine lv_if_lt (tgt := 17) hx hb dX12_in_3 (by decide) (fun c3 => ?_) (fun c3 => ?_)
  · have f3 := (show ip0 < ip1 from y_lt hz0 hz1 c3)
    have r3a : ir ip0 (-9223372036854775808) 9223372036854775806 := ir_lta f3 (rl_z hz0) (rl_z hz1) (by decide)
    have r3b : ir ip1 (-9223372036854775807) 9223372036854775807 := ir_ltb f3 (rl_z hz0) (rl_z hz1) (by decide)
    refine lv_iconst (v := 0) hx hb dX12_in_17 (by decide) ?_
    subst hQ
    exact W.zret (v := 0) hx hb hr rfl (fun t ht hW => ⟨⟨0, (), rfl, (Or.inr ⟨rfl, (by first | omega | decide)⟩), trivial⟩, hS.F ht⟩) hS.2.2 dX12_in_18
  have f3 := (show ip1 ≤ ip0 from y_nlt hz0 hz1 c3)
  refine lv_lload_n hx hb dX12_in_6 rfl (lv_at hl 0 rfl) ?_
  refine lv_lload hx hb dX12_in_7 (lv_at hl 2 rfl) ?_
  refine W.lcmp hx hb dX12_in_9 ?_
  refine lv_if_gt (tgt := 17) hx hb dX12_in_10 (by decide) (fun c10 => ?_) (fun c10 => ?_)
  rotate_left 1
  · have f10 := (show ip0 ≤ ip2 from y_ngt hz0 hz2 c10)
    refine lv_iconst (v := 1) hx hb dX12_in_13 (by decide) ?_
    refine lv_goto (tgt := 18) hx hb dX12_in_14 (by decide) ?_
    subst hQ
    exact W.zret (v := 1) hx hb hr rfl (fun t ht hW => ⟨⟨1, (), rfl, (Or.inl ⟨rfl, (by first | omega | decide), (by first | omega | decide)⟩), trivial⟩, hS.F ht⟩) hS.2.2 dX12_in_18
  have f10 := (show ip2 < ip0 from y_gt hz0 hz2 c10)
  have r10a : ir ip0 (-9223372036854775807) 9223372036854775807 := ir_ltb f10 (rl_z hz2) (rl_z hz0) (by decide)
  have r10b : ir ip2 (-9223372036854775808) 9223372036854775806 := ir_lta f10 (rl_z hz2) (rl_z hz0) (by decide)
  refine lv_iconst (v := 0) hx hb dX12_in_17 (by decide) ?_
  subst hQ
  exact W.zret (v := 0) hx hb hr rfl (fun t ht hW => ⟨⟨0, (), rfl, (Or.inr ⟨rfl, (by first | omega | decide)⟩), trivial⟩, hS.F ht⟩) hS.2.2 dX12_in_18
def v_X12_isSlotN : List Cond := .code yX12_isSlot cX12_isSlot 1 (some .boolean) :: (([.constantLong RX12 110 (3), .methodLink RX12 112 yX12_in, .static yX12_in, .initialized RX12] : List Cond) ++ (v_X12_inN ++ ([] : List Cond)))
theorem good_v_X12_isSlotN : v_X12_isSlotN.all goodWord = true := ga_c (by decide +kernel) (ga_a (by decide +kernel) (ga_a good_v_X12_inN rfl))
set_option maxHeartbeats 4000000 in
set_option maxRecDepth 100000 in
theorem q_X12_isSlotN (l : Launch) (g : va_G) (cI cJ cB cZ cL : ClassId) (p0 : Int32) (sz : Nat)  : Met l yX12_isSlot v_X12_isSlotN ({ frames := 1, cells := 0, slots := 0, locals := 25 }) (va_Pc [.int p0] (pRO g (tyT cI cJ cB cZ cL) [] sz)) (va_Qi (fun (r : Int32) (u : Unit) => ((r = 1 ∧ 0 ≤ p0.toInt ∧ p0.toInt ≤ 3) ∨ (r = 0 ∧ ¬ (0 ≤ p0.toInt ∧ p0.toInt ≤ 3)))) (fun (_ : Unit) (_ : State) => True) (va_A [] sz)) 0 0 (va_A [] sz) := by
  refine Met.ofW (cc := cX12_isSlot) (maxL := 1) (ret := (some .boolean)) (by decide) rfl ?_
  intro p e s mth args below meth c s₁ B hml hv
  obtain ⟨rfl, hsz, hP, hK⟩ := hv
  have hx := B.exec
  have hb := B.bytes
  have hr := B.returns
  have hts := atoms_spec (ws := v_X12_isSlotN) B.pre
  have hown : s.vm.findClass RX12 = some mth.cls := findClass_of_methodNamed B.named
  have hlocks := B.notSynchronized
  clear B
  subst hsz
  generalize hAe : (va_A [] s.heap.size) = A
  have hA : ∀ q : Nat, s.heap.size ≤ q → A q := fun q h => by rw [← hAe]; exact Or.inr h
  have hS : va_S A s.heap s.heap [] := va_S.rf
  have hl := lv_entry ([.int p0]) (n := 1) (Nat.le_of_ble_eq_true rfl)
  rw [lg_entry_eq]
  generalize (lg_sl ([.int p0]) ++ List.replicate (1 - (lg_sl ([.int p0])).length) Slot.unset).toArray = ls at hl ⊢
  generalize ([.int p0] : List Value).toArray = av at hts ⊢
  generalize hQ : MQ below _ av s _ _ A = QQ
  have hl : lv_has ls 1 [(0, .int p0)] := hl
  have hP : va_P g vwCl [] s.heap := hP
  refine lv_iload_n hx hb dX12_isSlot_0 rfl (lv_at hl 0 rfl) ?_
  refine lv_i2l (v := p0.toInt64) hx hb dX12_isSlot_1 rfl ?_
  refine lv_lconst (v := 0) hx hb dX12_isSlot_2 (by decide) ?_
  refine lv_ldc2 (v := 3) hx hb hown (hts (.constantLong RX12 110 (3)) (List.mem_cons_of_mem _ (List.mem_append_left _ (List.mem_of_getElem? (i := 0) rfl)))) dX12_isSlot_3 ?_
  refine ro_i (va_runS (As := [.long p0.toInt64, .long 0, .long 3]) (rest := []) ⟨hx, hb, hml, hown, hts⟩ (q_X12_inN l g cI cJ cB cZ cL p0.toInt64 p0.toInt 0 0 3 3 s.heap.size (z_i2l rfl) rfl rfl) (va_cwS 3 hts (goodIn_app (g_3 (List.mem_cons_of_mem _ (List.mem_append_left _ (List.mem_of_getElem? (i := 1) rfl))) (List.mem_cons_of_mem _ (List.mem_append_left _ (List.mem_of_getElem? (i := 2) rfl))) (List.mem_cons_of_mem _ (List.mem_append_left _ (List.mem_of_getElem? (i := 3) rfl))) (by decide +kernel)) (goodIn_sub (fun _ h => List.mem_cons_of_mem _ (List.mem_append_right _ (List.mem_append_left _ h))) good_v_X12_inN)) rfl rfl rfl (by decide +kernel) ⟨Nat.le_of_ble_eq_true rfl, Nat.le_of_ble_eq_true rfl⟩) (ps_RO (wc := []) hK hP [] rfl) rfl rfl hl.1 rfl (lv_room (Nat.le_of_ble_eq_true rfl)) dX12_isSlot_6 ⟨Nat.le_of_ble_eq_true rfl, Nat.le_of_ble_eq_true rfl⟩) hS hA hP (fun r6 u6 H locs hw6 hP hS => ?_)
  have hw6_0 := hw6
  rcases hw6_0 with ⟨er6, fc6_0, fc6_1⟩ | ⟨er6, fc6_0⟩
  rotate_left 1
  · subst er6
    have fc6_0 : ¬ (0 ≤ p0.toInt ∧ p0.toInt ≤ 3) := fc6_0
    subst hQ
    exact W.zret (v := 0) hx hb hr rfl (fun t ht hW => ⟨⟨0, (), rfl, (Or.inr ⟨rfl, (by first | omega | decide)⟩), trivial⟩, hS.F ht⟩) hS.2.2 dX12_isSlot_9
  subst er6
  have fc6_0 : 0 ≤ p0.toInt := fc6_0
  have r6_0b : ir p0.toInt 0 2147483647 := ir_leb fc6_0 (ir_c 0) (rg_all p0) (by decide)
  have fc6_1 : p0.toInt ≤ 3 := fc6_1
  have r6_1a : ir p0.toInt 0 3 := ir_lea fc6_1 r6_0b (ir_c 3) (by decide)
  subst hQ
  exact W.zret (v := 1) hx hb hr rfl (fun t ht hW => ⟨⟨1, (), rfl, (Or.inl ⟨rfl, (by first | omega | decide), (by first | omega | decide)⟩), trivial⟩, hS.F ht⟩) hS.2.2 dX12_isSlot_9
def v_X12_rowF : List Cond := .code yX12_row cX12_row 5 (some .int) :: (([.fieldLink RX12 107 "CardsAtYuleModel" "thrown" "I", .methodLink RX12 116 yX12_isSlot, .static yX12_isSlot, .initialized RX12, .constantLong RX12 110 (3), .methodLink RX12 112 yX12_in, .static yX12_in, .fieldLink RX12 7 "CardsAtYuleModel" "width" "[I", .fieldLink RX12 13 "CardsAtYuleModel" "many" "[I", .fieldLink RX12 16 "CardsAtYuleModel" "cells" "[J"] : List Cond) ++ (v_X12_isSlotN ++ (v_X12_inN ++ (wsX120 ++ ([] : List Cond)))))
theorem good_v_X12_rowF : v_X12_rowF.all goodWord = true := ga_c (by decide +kernel) (ga_a (by decide +kernel) (ga_a good_v_X12_isSlotN (ga_a good_v_X12_inN (ga_a good_wsX120 rfl))))
set_option maxHeartbeats 4000000 in
set_option maxRecDepth 100000 in
theorem q_X12_rowF (l : Launch) (g : va_G) (cI cJ cB cZ cL : ClassId) (p0 : Int32) (p1 : Int32) (p2 : Int32) (m : Nat) (m_a : Nat → Nat) (m_thrown : Int32) (m_taped : Int32) (m_at : Int32) (m_token : Int32) (m_place : Int32) (m_value : Int32) (m_word : Int64) (m_bad : Int32) (m_badPlace : Int32) (m_fault : Int32) (m_faultPlace : Int32) (m_willing : Int32) (m_will : Int32) (m_forgot : Int32) (m_isDrawn : Int32) (m_x : Int64) (m_begin : Int32) (m_round : Int32) (m_roundCards : Int32) (m_fate : Int32) (m_any : Int64) (m_bothSend : Int64) (m_meanCards : Int64) (m_bestSum : Int32) (m_fitMany : Int32) (m_fitFirst : Int64) (m_fitSecond : Int64) (m_width_c : Nat → Int32) (m_many_c : Nat → Int32) (m_cells_c : Nat → Int64) (sz : Nat) (hv_m_taped : ir m_taped.toInt 0 1600) (hv_m_at : ir m_at.toInt 0 1600) (hv_m_will : ir m_will.toInt 0 1) (hv_m_isDrawn : ir m_isDrawn.toInt 0 1) (ha_m_many_c : ar m_many_c 4 0 60) : Met l yX12_row v_X12_rowF ({ frames := 2, cells := 0, slots := 0, locals := 45 }) (va_Pc [.ref m, .int p0, .int p1, .int p2] (pRW g (tyT cI cJ cB cZ cL) [(m, .inr (11, mG m_a m_thrown m_taped m_at m_token m_place m_value m_word m_bad m_badPlace m_fault m_faultPlace m_willing m_will m_forgot m_isDrawn m_x m_begin m_round m_roundCards m_fate m_any m_bothSend m_meanCards m_bestSum m_fitMany m_fitFirst m_fitSecond)), ((m_a 1), .inl (cI, 4, .inl m_width_c)), ((m_a 2), .inl (cI, 4, .inl m_many_c)), ((m_a 3), .inl (cJ, 240, .inr (.inl m_cells_c)))] sz)) (va_Qi (fun (r : Int32) (u : Int32 × (Nat → Int32) × (Nat → Int32) × (Nat → Int64)) => match u with | (n_m_thrown, n_m_width_c, n_m_many_c, n_m_cells_c) => (ir n_m_thrown.toInt 0 0) ∧ (ar n_m_many_c 4 0 60) ∧ (r = rowV p0 p1 p2) ∧ (n_m_width_c = rowU p0 p1 p2 m_width_c p1) ∧ (n_m_many_c = rowU p0 p1 p2 m_many_c p2) ∧ (ir r.toInt (-3) 0)) (fun (u : Int32 × (Nat → Int32) × (Nat → Int32) × (Nat → Int64)) (t : State) => bRW g (tyT cI cJ cB cZ cL) (va_A [(m, .inr (11, mG m_a m_thrown m_taped m_at m_token m_place m_value m_word m_bad m_badPlace m_fault m_faultPlace m_willing m_will m_forgot m_isDrawn m_x m_begin m_round m_roundCards m_fate m_any m_bothSend m_meanCards m_bestSum m_fitMany m_fitFirst m_fitSecond)), ((m_a 1), .inl (cI, 4, .inl m_width_c)), ((m_a 2), .inl (cI, 4, .inl m_many_c)), ((m_a 3), .inl (cJ, 240, .inr (.inl m_cells_c)))] sz) (match u with | (n_m_thrown, n_m_width_c, n_m_many_c, n_m_cells_c) => [(m, .inr (11, mG m_a n_m_thrown m_taped m_at m_token m_place m_value m_word m_bad m_badPlace m_fault m_faultPlace m_willing m_will m_forgot m_isDrawn m_x m_begin m_round m_roundCards m_fate m_any m_bothSend m_meanCards m_bestSum m_fitMany m_fitFirst m_fitSecond)), ((m_a 1), .inl (cI, 4, .inl n_m_width_c)), ((m_a 2), .inl (cI, 4, .inl n_m_many_c)), ((m_a 3), .inl (cJ, 240, .inr (.inl n_m_cells_c)))]) t) (va_A [(m, .inr (11, mG m_a m_thrown m_taped m_at m_token m_place m_value m_word m_bad m_badPlace m_fault m_faultPlace m_willing m_will m_forgot m_isDrawn m_x m_begin m_round m_roundCards m_fate m_any m_bothSend m_meanCards m_bestSum m_fitMany m_fitFirst m_fitSecond)), ((m_a 1), .inl (cI, 4, .inl m_width_c)), ((m_a 2), .inl (cI, 4, .inl m_many_c)), ((m_a 3), .inl (cJ, 240, .inr (.inl m_cells_c)))] sz)) 0 0 (va_A [(m, .inr (11, mG m_a m_thrown m_taped m_at m_token m_place m_value m_word m_bad m_badPlace m_fault m_faultPlace m_willing m_will m_forgot m_isDrawn m_x m_begin m_round m_roundCards m_fate m_any m_bothSend m_meanCards m_bestSum m_fitMany m_fitFirst m_fitSecond)), ((m_a 1), .inl (cI, 4, .inl m_width_c)), ((m_a 2), .inl (cI, 4, .inl m_many_c)), ((m_a 3), .inl (cJ, 240, .inr (.inl m_cells_c)))] sz) := by
  refine Met.ofW (cc := cX12_row) (maxL := 5) (ret := (some .int)) (by decide) rfl ?_
  intro p e s mth args below meth c s₁ B hml hv
  obtain ⟨rfl, hsz, hP, hK, hD0⟩ := hv
  have hx := B.exec
  have hb := B.bytes
  have hr := B.returns
  have hts := atoms_spec (ws := v_X12_rowF) B.pre
  have hown : s.vm.findClass RX12 = some mth.cls := findClass_of_methodNamed B.named
  have hlocks := B.notSynchronized
  clear B
  subst hsz
  have iX12 : ∀ w ∈ wsX120, w ∈ v_X12_rowF := (fun _ h => List.mem_cons_of_mem _ (List.mem_append_right _ (List.mem_append_right _ (List.mem_append_right _ (List.mem_append_left _ h)))))
  have hD := hD0.self (sz := s.heap.size)
  generalize hAe : (va_A [(m, .inr (11, mG m_a m_thrown m_taped m_at m_token m_place m_value m_word m_bad m_badPlace m_fault m_faultPlace m_willing m_will m_forgot m_isDrawn m_x m_begin m_round m_roundCards m_fate m_any m_bothSend m_meanCards m_bestSum m_fitMany m_fitFirst m_fitSecond)), ((m_a 1), .inl (cI, 4, .inl m_width_c)), ((m_a 2), .inl (cI, 4, .inl m_many_c)), ((m_a 3), .inl (cJ, 240, .inr (.inl m_cells_c)))] s.heap.size) = A at hD ⊢
  have hA : ∀ q : Nat, s.heap.size ≤ q → A q := fun q h => by rw [← hAe]; exact Or.inr h
  have hS : va_S A s.heap s.heap [] := va_S.rf
  have hl := lv_entry ([.ref m, .int p0, .int p1, .int p2]) (n := 5) (Nat.le_of_ble_eq_true rfl)
  rw [lg_entry_eq]
  generalize (lg_sl ([.ref m, .int p0, .int p1, .int p2]) ++ List.replicate (5 - (lg_sl ([.ref m, .int p0, .int p1, .int p2])).length) Slot.unset).toArray = ls at hl ⊢
  generalize ([.ref m, .int p0, .int p1, .int p2] : List Value).toArray = av at hts ⊢
  generalize hQ : MQ below _ av s _ _ A = QQ
  have hl : lv_has ls 5 [(0, .ref m), (1, .int p0), (2, .int p1), (3, .int p2)] := hl
  have hP : va_P g vwCl [(m, .inr (11, mG m_a m_thrown m_taped m_at m_token m_place m_value m_word m_bad m_badPlace m_fault m_faultPlace m_willing m_will m_forgot m_isDrawn m_x m_begin m_round m_roundCards m_fate m_any m_bothSend m_meanCards m_bestSum m_fitMany m_fitFirst m_fitSecond)), ((m_a 1), .inl (cI, 4, .inl m_width_c)), ((m_a 2), .inl (cI, 4, .inl m_many_c)), ((m_a 3), .inl (cJ, 240, .inr (.inl m_cells_c)))] s.heap := hP
  refine lv_aload_n hx hb dX12_row_0 rfl (lv_at hl 0 rfl) ?_
  refine lv_iconst (v := 0) hx hb dX12_row_1 (by decide) ?_
  refine va_put (D := g) (ci := 11) (v := .int 0) (ty := .int) (C := RX12) (T := TX12) (N := 56) hx hb hts iX12 tyX12 tyX12_ok nmX12 hown hK hP hD hS 0 rfl rfl 0 (by decide) (hts (.fieldLink RX12 107 "CardsAtYuleModel" "thrown" "I") (List.mem_cons_of_mem _ (List.mem_append_left _ (List.mem_of_getElem? (i := 0) rfl)))) (fun _ h9 => h9) rfl (by decide +kernel) rfl rfl (Nat.le_of_ble_eq_true rfl) dX12_row_2 (fun H locs hP hD hS => ?_)
  have hP : va_P g vwCl [(m, .inr (11, mG m_a 0 m_taped m_at m_token m_place m_value m_word m_bad m_badPlace m_fault m_faultPlace m_willing m_will m_forgot m_isDrawn m_x m_begin m_round m_roundCards m_fate m_any m_bothSend m_meanCards m_bestSum m_fitMany m_fitFirst m_fitSecond)), ((m_a 1), .inl (cI, 4, .inl m_width_c)), ((m_a 2), .inl (cI, 4, .inl m_many_c)), ((m_a 3), .inl (cJ, 240, .inr (.inl m_cells_c)))] H := hP
  have hD : va_D A [(m, .inr (11, mG m_a 0 m_taped m_at m_token m_place m_value m_word m_bad m_badPlace m_fault m_faultPlace m_willing m_will m_forgot m_isDrawn m_x m_begin m_round m_roundCards m_fate m_any m_bothSend m_meanCards m_bestSum m_fitMany m_fitFirst m_fitSecond)), ((m_a 1), .inl (cI, 4, .inl m_width_c)), ((m_a 2), .inl (cI, 4, .inl m_many_c)), ((m_a 3), .inl (cJ, 240, .inr (.inl m_cells_c)))] := hD
  refine lv_iload_n hx hb dX12_row_5 rfl (lv_at hl 1 rfl) ?_
  refine ro_i (va_runS (As := [.int p0]) (rest := []) ⟨hx, hb, hml, hown, hts⟩ (q_X12_isSlotN l g cI cJ cB cZ cL p0 H.size ) (va_cwS 1 hts (goodIn_app (g_3 (List.mem_cons_of_mem _ (List.mem_append_left _ (List.mem_of_getElem? (i := 1) rfl))) (List.mem_cons_of_mem _ (List.mem_append_left _ (List.mem_of_getElem? (i := 2) rfl))) (List.mem_cons_of_mem _ (List.mem_append_left _ (List.mem_of_getElem? (i := 3) rfl))) (by decide +kernel)) (goodIn_sub (fun _ h => List.mem_cons_of_mem _ (List.mem_append_right _ (List.mem_append_left _ h))) good_v_X12_isSlotN)) rfl rfl rfl (by decide +kernel) ⟨Nat.le_of_ble_eq_true rfl, Nat.le_of_ble_eq_true rfl⟩) (ps_RO (wc := []) hK hP [] rfl) rfl rfl hl.1 rfl (lv_room (Nat.le_of_ble_eq_true rfl)) dX12_row_6 ⟨Nat.le_of_ble_eq_true rfl, Nat.le_of_ble_eq_true rfl⟩) hS hA hP (fun r6 u6 H locs hw6 hP hS => ?_)
  have hw6_0 := hw6
  rcases hw6_0 with ⟨er6, fc6_0, fc6_1⟩ | ⟨er6, fc6_0⟩
  rotate_left 1
  · subst er6
    have fc6_0 : ¬ (0 ≤ p0.toInt ∧ p0.toInt ≤ 3) := fc6_0
    refine lv_if_eq (tgt := 30) hx hb dX12_row_9 (by decide) (fun _ => ?_) (fun c => absurd c (by decide))
    refine lv_bipush (v := (-2)) hx hb dX12_row_30 (by decide) ?_
    subst hQ
    have hP9 := hP.sub (ws' := [(m, .inr (11, mG m_a 0 m_taped m_at m_token m_place m_value m_word m_bad m_badPlace m_fault m_faultPlace m_willing m_will m_forgot m_isDrawn m_x m_begin m_round m_roundCards m_fate m_any m_bothSend m_meanCards m_bestSum m_fitMany m_fitFirst m_fitSecond)), ((m_a 1), .inl (cI, 4, .inl m_width_c)), ((m_a 2), .inl (cI, 4, .inl m_many_c)), ((m_a 3), .inl (cJ, 240, .inr (.inl m_cells_c)))]) [0, 1, 2, 3] rfl
    have hD9 := hD.sub (ws' := [(m, .inr (11, mG m_a 0 m_taped m_at m_token m_place m_value m_word m_bad m_badPlace m_fault m_faultPlace m_willing m_will m_forgot m_isDrawn m_x m_begin m_round m_roundCards m_fate m_any m_bothSend m_meanCards m_bestSum m_fitMany m_fitFirst m_fitSecond)), ((m_a 1), .inl (cI, 4, .inl m_width_c)), ((m_a 2), .inl (cI, 4, .inl m_many_c)), ((m_a 3), .inl (cJ, 240, .inr (.inl m_cells_c)))]) [0, 1, 2, 3] (by decide) rfl
    exact W.iret (v := (-2)) hx hb hr (fun t ht hW => ⟨⟨(-2), (0, m_width_c, m_many_c, m_cells_c), rfl, ⟨(show ir (0 : Int32).toInt 0 0 by decide), ha_m_many_c, (by unfold rowV; first | (rw [if_neg (by omega)]; done) | (rw [if_pos (by omega), if_pos (by omega)]; done) | (rw [if_pos (by omega), if_neg (by omega)]; done)), (by unfold rowU; first | (rw [if_neg (by omega)]; done) | (rw [if_pos (by omega)]; assumption)), (by unfold rowU; first | (rw [if_neg (by omega)]; done) | (rw [if_pos (by omega)]; assumption)), (show ir ((-2) : Int32).toInt (-3) 0 by decide)⟩, ⟨by rw [ht]; exact hP9, va_K.moved hW.alike hK, hD9⟩⟩, hS.F ht⟩) hS.2.2 dX12_row_32
  subst er6
  have fc6_0 : 0 ≤ p0.toInt := fc6_0
  have r6_0b : ir p0.toInt 0 2147483647 := ir_leb fc6_0 (ir_c 0) (rg_all p0) (by decide)
  have fc6_1 : p0.toInt ≤ 3 := fc6_1
  have r6_1a : ir p0.toInt 0 3 := ir_lea fc6_1 r6_0b (ir_c 3) (by decide)
  refine lv_if_eq (tgt := 30) hx hb dX12_row_9 (by decide) (fun c => absurd c (by decide)) (fun _ => ?_)
  refine lv_iload_n hx hb dX12_row_12 rfl (lv_at hl 2 rfl) ?_
  refine lv_i2l (v := p1.toInt64) hx hb dX12_row_13 rfl ?_
  refine lv_lconst (v := 0) hx hb dX12_row_14 (by decide) ?_
  refine lv_ldc2 (v := 3) hx hb hown (hts (.constantLong RX12 110 (3)) (List.mem_cons_of_mem _ (List.mem_append_left _ (List.mem_of_getElem? (i := 4) rfl)))) dX12_row_15 ?_
  refine ro_i (va_runS (As := [.long p1.toInt64, .long 0, .long 3]) (rest := []) ⟨hx, hb, hml, hown, hts⟩ (q_X12_inN l g cI cJ cB cZ cL p1.toInt64 p1.toInt 0 0 3 3 H.size (z_i2l rfl) rfl rfl) (va_cwS 3 hts (goodIn_app (g_3 (List.mem_cons_of_mem _ (List.mem_append_left _ (List.mem_of_getElem? (i := 5) rfl))) (List.mem_cons_of_mem _ (List.mem_append_left _ (List.mem_of_getElem? (i := 6) rfl))) (List.mem_cons_of_mem _ (List.mem_append_left _ (List.mem_of_getElem? (i := 3) rfl))) (by decide +kernel)) (goodIn_sub (fun _ h => List.mem_cons_of_mem _ (List.mem_append_right _ (List.mem_append_right _ (List.mem_append_left _ h)))) good_v_X12_inN)) rfl rfl rfl (by decide +kernel) ⟨Nat.le_of_ble_eq_true rfl, Nat.le_of_ble_eq_true rfl⟩) (ps_RO (wc := []) hK hP [] rfl) rfl rfl hl.1 rfl (lv_room (Nat.le_of_ble_eq_true rfl)) dX12_row_18 ⟨Nat.le_of_ble_eq_true rfl, Nat.le_of_ble_eq_true rfl⟩) hS hA hP (fun r18 u18 H locs hw18 hP hS => ?_)
  have hw18_0 := hw18
  rcases hw18_0 with ⟨er18, fc18_0, fc18_1⟩ | ⟨er18, fc18_0⟩
  rotate_left 1
  · subst er18
    have fc18_0 : ¬ (0 ≤ p1.toInt ∧ p1.toInt ≤ 3) := fc18_0
    refine lv_if_eq (tgt := 30) hx hb dX12_row_21 (by decide) (fun _ => ?_) (fun c => absurd c (by decide))
    refine lv_bipush (v := (-2)) hx hb dX12_row_30 (by decide) ?_
    subst hQ
    have hP9 := hP.sub (ws' := [(m, .inr (11, mG m_a 0 m_taped m_at m_token m_place m_value m_word m_bad m_badPlace m_fault m_faultPlace m_willing m_will m_forgot m_isDrawn m_x m_begin m_round m_roundCards m_fate m_any m_bothSend m_meanCards m_bestSum m_fitMany m_fitFirst m_fitSecond)), ((m_a 1), .inl (cI, 4, .inl m_width_c)), ((m_a 2), .inl (cI, 4, .inl m_many_c)), ((m_a 3), .inl (cJ, 240, .inr (.inl m_cells_c)))]) [0, 1, 2, 3] rfl
    have hD9 := hD.sub (ws' := [(m, .inr (11, mG m_a 0 m_taped m_at m_token m_place m_value m_word m_bad m_badPlace m_fault m_faultPlace m_willing m_will m_forgot m_isDrawn m_x m_begin m_round m_roundCards m_fate m_any m_bothSend m_meanCards m_bestSum m_fitMany m_fitFirst m_fitSecond)), ((m_a 1), .inl (cI, 4, .inl m_width_c)), ((m_a 2), .inl (cI, 4, .inl m_many_c)), ((m_a 3), .inl (cJ, 240, .inr (.inl m_cells_c)))]) [0, 1, 2, 3] (by decide) rfl
    exact W.iret (v := (-2)) hx hb hr (fun t ht hW => ⟨⟨(-2), (0, m_width_c, m_many_c, m_cells_c), rfl, ⟨(show ir (0 : Int32).toInt 0 0 by decide), ha_m_many_c, (by unfold rowV; first | (rw [if_neg (by omega)]; done) | (rw [if_pos (by omega), if_pos (by omega)]; done) | (rw [if_pos (by omega), if_neg (by omega)]; done)), (by unfold rowU; first | (rw [if_neg (by omega)]; done) | (rw [if_pos (by omega)]; assumption)), (by unfold rowU; first | (rw [if_neg (by omega)]; done) | (rw [if_pos (by omega)]; assumption)), (show ir ((-2) : Int32).toInt (-3) 0 by decide)⟩, ⟨by rw [ht]; exact hP9, va_K.moved hW.alike hK, hD9⟩⟩, hS.F ht⟩) hS.2.2 dX12_row_32
  subst er18
  have fc18_0 : 0 ≤ p1.toInt := fc18_0
  have r18_0b : ir p1.toInt 0 2147483647 := ir_leb fc18_0 (ir_c 0) (rg_all p1) (by decide)
  have fc18_1 : p1.toInt ≤ 3 := fc18_1
  have r18_1a : ir p1.toInt 0 3 := ir_lea fc18_1 r18_0b (ir_c 3) (by decide)
  refine lv_if_eq (tgt := 30) hx hb dX12_row_21 (by decide) (fun c => absurd c (by decide)) (fun _ => ?_)
  refine lv_iload_n hx hb dX12_row_24 rfl (lv_at hl 3 rfl) ?_
  refine lv_bipush (v := 60) hx hb dX12_row_25 (by decide) ?_
  refine lv_icmp_le (tgt := 33) hx hb dX12_row_27 (by decide) (fun c27 => ?_) (fun c27 => ?_)
  rotate_left 1
  · have f27 := (show 60 < p2.toInt from z_nle rfl rfl c27)
    have r27a : ir p2.toInt 61 2147483647 := ir_ltb f27 (ir_c 60) (rg_all p2) (by decide)
    refine lv_bipush (v := (-2)) hx hb dX12_row_30 (by decide) ?_
    subst hQ
    have hP9 := hP.sub (ws' := [(m, .inr (11, mG m_a 0 m_taped m_at m_token m_place m_value m_word m_bad m_badPlace m_fault m_faultPlace m_willing m_will m_forgot m_isDrawn m_x m_begin m_round m_roundCards m_fate m_any m_bothSend m_meanCards m_bestSum m_fitMany m_fitFirst m_fitSecond)), ((m_a 1), .inl (cI, 4, .inl m_width_c)), ((m_a 2), .inl (cI, 4, .inl m_many_c)), ((m_a 3), .inl (cJ, 240, .inr (.inl m_cells_c)))]) [0, 1, 2, 3] rfl
    have hD9 := hD.sub (ws' := [(m, .inr (11, mG m_a 0 m_taped m_at m_token m_place m_value m_word m_bad m_badPlace m_fault m_faultPlace m_willing m_will m_forgot m_isDrawn m_x m_begin m_round m_roundCards m_fate m_any m_bothSend m_meanCards m_bestSum m_fitMany m_fitFirst m_fitSecond)), ((m_a 1), .inl (cI, 4, .inl m_width_c)), ((m_a 2), .inl (cI, 4, .inl m_many_c)), ((m_a 3), .inl (cJ, 240, .inr (.inl m_cells_c)))]) [0, 1, 2, 3] (by decide) rfl
    exact W.iret (v := (-2)) hx hb hr (fun t ht hW => ⟨⟨(-2), (0, m_width_c, m_many_c, m_cells_c), rfl, ⟨(show ir (0 : Int32).toInt 0 0 by decide), ha_m_many_c, (by unfold rowV; first | (rw [if_neg (by omega)]; done) | (rw [if_pos (by omega), if_pos (by omega)]; done) | (rw [if_pos (by omega), if_neg (by omega)]; done)), (by unfold rowU; first | (rw [if_neg (by omega)]; done) | (rw [if_pos (by omega)]; assumption)), (by unfold rowU; first | (rw [if_neg (by omega)]; done) | (rw [if_pos (by omega)]; assumption)), (show ir ((-2) : Int32).toInt (-3) 0 by decide)⟩, ⟨by rw [ht]; exact hP9, va_K.moved hW.alike hK, hD9⟩⟩, hS.F ht⟩) hS.2.2 dX12_row_32
  have f27 := (show p2.toInt ≤ 60 from z_le rfl rfl c27)
  have r27a : ir p2.toInt (-2147483648) 60 := ir_lea f27 (rg_all p2) (ir_c 60) (by decide)
  refine lv_iload_n hx hb dX12_row_33 rfl (lv_at hl 3 rfl) ?_
  refine lv_if_ge (tgt := 40) hx hb dX12_row_34 (by decide) (fun c34 => ?_) (fun c34 => ?_)
  rotate_left 1
  · have f34 := (show p2.toInt < 0 from z_nle rfl rfl c34)
    have r34a : ir p2.toInt (-2147483648) (-1) := ir_lta f34 r27a (ir_c 0) (by decide)
    refine lv_bipush (v := (-3)) hx hb dX12_row_37 (by decide) ?_
    subst hQ
    have hP9 := hP.sub (ws' := [(m, .inr (11, mG m_a 0 m_taped m_at m_token m_place m_value m_word m_bad m_badPlace m_fault m_faultPlace m_willing m_will m_forgot m_isDrawn m_x m_begin m_round m_roundCards m_fate m_any m_bothSend m_meanCards m_bestSum m_fitMany m_fitFirst m_fitSecond)), ((m_a 1), .inl (cI, 4, .inl m_width_c)), ((m_a 2), .inl (cI, 4, .inl m_many_c)), ((m_a 3), .inl (cJ, 240, .inr (.inl m_cells_c)))]) [0, 1, 2, 3] rfl
    have hD9 := hD.sub (ws' := [(m, .inr (11, mG m_a 0 m_taped m_at m_token m_place m_value m_word m_bad m_badPlace m_fault m_faultPlace m_willing m_will m_forgot m_isDrawn m_x m_begin m_round m_roundCards m_fate m_any m_bothSend m_meanCards m_bestSum m_fitMany m_fitFirst m_fitSecond)), ((m_a 1), .inl (cI, 4, .inl m_width_c)), ((m_a 2), .inl (cI, 4, .inl m_many_c)), ((m_a 3), .inl (cJ, 240, .inr (.inl m_cells_c)))]) [0, 1, 2, 3] (by decide) rfl
    exact W.iret (v := (-3)) hx hb hr (fun t ht hW => ⟨⟨(-3), (0, m_width_c, m_many_c, m_cells_c), rfl, ⟨(show ir (0 : Int32).toInt 0 0 by decide), ha_m_many_c, (by unfold rowV; first | (rw [if_neg (by omega)]; done) | (rw [if_pos (by omega), if_pos (by omega)]; done) | (rw [if_pos (by omega), if_neg (by omega)]; done)), (by unfold rowU; first | (rw [if_neg (by omega)]; done) | (rw [if_pos (by omega)]; assumption)), (by unfold rowU; first | (rw [if_neg (by omega)]; done) | (rw [if_pos (by omega)]; assumption)), (show ir ((-3) : Int32).toInt (-3) 0 by decide)⟩, ⟨by rw [ht]; exact hP9, va_K.moved hW.alike hK, hD9⟩⟩, hS.F ht⟩) hS.2.2 dX12_row_39
  have f34 := (show 0 ≤ p2.toInt from z_le rfl rfl c34)
  have r34a : ir p2.toInt 0 60 := ir_leb f34 (ir_c 0) r27a (by decide)
  refine lv_aload_n hx hb dX12_row_40 rfl (lv_at hl 0 rfl) ?_
  refine va_get (D := g) (ci := 11) (v := .ref (m_a 1)) (C := RX12) (T := TX12) (N := 56) hx hb hts iX12 hown hK hP 0 rfl rfl 1 (by decide) (hts (.fieldLink RX12 7 "CardsAtYuleModel" "width" "[I") (List.mem_cons_of_mem _ (List.mem_append_left _ (List.mem_of_getElem? (i := 7) rfl)))) (fun _ h9 => h9) rfl dX12_row_41 ?_
  refine lv_iload_n hx hb dX12_row_44 rfl (lv_at hl 1 rfl) ?_
  refine lv_iload_n hx hb dX12_row_45 rfl (lv_at hl 2 rfl) ?_
  refine va_iast (D := g) hx hb hK hP hD hS 1 0 rfl rfl (vi_rg rfl r6_1a (by decide) (by decide)) dX12_row_46 (fun H locs hP hD hS => ?_)
  obtain ⟨g46, e46⟩ : ∃ z, z = upd m_width_c p0.toNatClampNeg p1 := ⟨_, rfl⟩
  have hP : va_P g vwCl [(m, .inr (11, mG m_a 0 m_taped m_at m_token m_place m_value m_word m_bad m_badPlace m_fault m_faultPlace m_willing m_will m_forgot m_isDrawn m_x m_begin m_round m_roundCards m_fate m_any m_bothSend m_meanCards m_bestSum m_fitMany m_fitFirst m_fitSecond)), ((m_a 1), .inl (cI, 4, .inl (upd m_width_c p0.toNatClampNeg p1))), ((m_a 2), .inl (cI, 4, .inl m_many_c)), ((m_a 3), .inl (cJ, 240, .inr (.inl m_cells_c)))] H := hP
  have hD : va_D A [(m, .inr (11, mG m_a 0 m_taped m_at m_token m_place m_value m_word m_bad m_badPlace m_fault m_faultPlace m_willing m_will m_forgot m_isDrawn m_x m_begin m_round m_roundCards m_fate m_any m_bothSend m_meanCards m_bestSum m_fitMany m_fitFirst m_fitSecond)), ((m_a 1), .inl (cI, 4, .inl (upd m_width_c p0.toNatClampNeg p1))), ((m_a 2), .inl (cI, 4, .inl m_many_c)), ((m_a 3), .inl (cJ, 240, .inr (.inl m_cells_c)))] := hD
  rw [← e46] at hP hD
  refine lv_aload_n hx hb dX12_row_47 rfl (lv_at hl 0 rfl) ?_
  refine va_get (D := g) (ci := 11) (v := .ref (m_a 2)) (C := RX12) (T := TX12) (N := 56) hx hb hts iX12 hown hK hP 0 rfl rfl 2 (by decide) (hts (.fieldLink RX12 13 "CardsAtYuleModel" "many" "[I") (List.mem_cons_of_mem _ (List.mem_append_left _ (List.mem_of_getElem? (i := 8) rfl)))) (fun _ h9 => h9) rfl dX12_row_48 ?_
  refine lv_iload_n hx hb dX12_row_51 rfl (lv_at hl 1 rfl) ?_
  refine lv_iload_n hx hb dX12_row_52 rfl (lv_at hl 3 rfl) ?_
  refine va_iast (D := g) hx hb hK hP hD hS 2 0 rfl rfl (vi_rg rfl r6_1a (by decide) (by decide)) dX12_row_53 (fun H locs hP hD hS => ?_)
  obtain ⟨g53, e53⟩ : ∃ z, z = upd m_many_c p0.toNatClampNeg p2 := ⟨_, rfl⟩
  have hP : va_P g vwCl [(m, .inr (11, mG m_a 0 m_taped m_at m_token m_place m_value m_word m_bad m_badPlace m_fault m_faultPlace m_willing m_will m_forgot m_isDrawn m_x m_begin m_round m_roundCards m_fate m_any m_bothSend m_meanCards m_bestSum m_fitMany m_fitFirst m_fitSecond)), ((m_a 1), .inl (cI, 4, .inl g46)), ((m_a 2), .inl (cI, 4, .inl (upd m_many_c p0.toNatClampNeg p2))), ((m_a 3), .inl (cJ, 240, .inr (.inl m_cells_c)))] H := hP
  have hD : va_D A [(m, .inr (11, mG m_a 0 m_taped m_at m_token m_place m_value m_word m_bad m_badPlace m_fault m_faultPlace m_willing m_will m_forgot m_isDrawn m_x m_begin m_round m_roundCards m_fate m_any m_bothSend m_meanCards m_bestSum m_fitMany m_fitFirst m_fitSecond)), ((m_a 1), .inl (cI, 4, .inl g46)), ((m_a 2), .inl (cI, 4, .inl (upd m_many_c p0.toNatClampNeg p2))), ((m_a 3), .inl (cJ, 240, .inr (.inl m_cells_c)))] := hD
  rw [← e53] at hP hD
  have a53 : ar g53 4 0 60 := by rw [e53]; exact ar_u ha_m_many_c r34a
  refine lv_iconst (v := 0) hx hb dX12_row_54 (by decide) ?_
  refine lv_istore (lv' := [(4, .int 0), (0, .ref m), (1, .int p0), (2, .int p1), (3, .int p2)]) hx hb dX12_row_55 hl (by decide) rfl (fun ls hl => ?_)
  have J57 : ∀ (n57 : Nat) (j57_l4 : Int32) (j57_m_a3_c : Nat → Int64) (H : Heap) (locs : List Loc) (ls : Array Slot), (61 - j57_l4.toInt).toNat < n57 → (ir j57_l4.toInt 0 60) → va_P g vwCl [(m, .inr (11, mG m_a 0 m_taped m_at m_token m_place m_value m_word m_bad m_badPlace m_fault m_faultPlace m_willing m_will m_forgot m_isDrawn m_x m_begin m_round m_roundCards m_fate m_any m_bothSend m_meanCards m_bestSum m_fitMany m_fitFirst m_fitSecond)), ((m_a 1), .inl (cI, 4, .inl g46)), ((m_a 2), .inl (cI, 4, .inl g53)), ((m_a 3), .inl (cJ, 240, .inr (.inl j57_m_a3_c)))] H → va_D A [(m, .inr (11, mG m_a 0 m_taped m_at m_token m_place m_value m_word m_bad m_badPlace m_fault m_faultPlace m_willing m_will m_forgot m_isDrawn m_x m_begin m_round m_roundCards m_fate m_any m_bothSend m_meanCards m_bestSum m_fitMany m_fitFirst m_fitSecond)), ((m_a 1), .inl (cI, 4, .inl g46)), ((m_a 2), .inl (cI, 4, .inl g53)), ((m_a 3), .inl (cJ, 240, .inr (.inl j57_m_a3_c)))] → va_S A s.heap H locs → lv_has ls 5 [(0, .ref m), (1, .int p0), (3, .int p2), (4, .int j57_l4)] → W p l e (headSpec v_X12_rowF ({ frames := 2, cells := 0, slots := 0, locals := 45 })).room s mth av below meth c H locs 0 0 QQ (F0 mth 57 ls []) := by
    intro n57
    induction n57 with
    | zero => exact fun j57_l4 j57_m_a3_c H locs ls hn => absurd hn (Nat.not_lt_zero _)
    | succ n57 ih57 =>
      intro j57_l4 j57_m_a3_c H locs ls hn57 hj57_l4 hP hD hS hl
      refine lv_iload hx hb dX12_row_57 (lv_at hl 3 rfl) ?_
      refine lv_iload_n hx hb dX12_row_59 rfl (lv_at hl 2 rfl) ?_
      refine lv_icmp_ge (tgt := 82) hx hb dX12_row_60 (by decide) (fun c60 => ?_) (fun c60 => ?_)
      · have f60 := (show p2.toInt ≤ j57_l4.toInt from z_le rfl rfl c60)
        refine lv_iconst (v := 0) hx hb dX12_row_82 (by decide) ?_
        subst hQ
        have hP9 := hP.sub (ws' := [(m, .inr (11, mG m_a 0 m_taped m_at m_token m_place m_value m_word m_bad m_badPlace m_fault m_faultPlace m_willing m_will m_forgot m_isDrawn m_x m_begin m_round m_roundCards m_fate m_any m_bothSend m_meanCards m_bestSum m_fitMany m_fitFirst m_fitSecond)), ((m_a 1), .inl (cI, 4, .inl g46)), ((m_a 2), .inl (cI, 4, .inl g53)), ((m_a 3), .inl (cJ, 240, .inr (.inl j57_m_a3_c)))]) [0, 1, 2, 3] rfl
        have hD9 := hD.sub (ws' := [(m, .inr (11, mG m_a 0 m_taped m_at m_token m_place m_value m_word m_bad m_badPlace m_fault m_faultPlace m_willing m_will m_forgot m_isDrawn m_x m_begin m_round m_roundCards m_fate m_any m_bothSend m_meanCards m_bestSum m_fitMany m_fitFirst m_fitSecond)), ((m_a 1), .inl (cI, 4, .inl g46)), ((m_a 2), .inl (cI, 4, .inl g53)), ((m_a 3), .inl (cJ, 240, .inr (.inl j57_m_a3_c)))]) [0, 1, 2, 3] (by decide) rfl
        exact W.iret (v := 0) hx hb hr (fun t ht hW => ⟨⟨0, (0, g46, g53, j57_m_a3_c), rfl, ⟨(show ir (0 : Int32).toInt 0 0 by decide), a53, (by unfold rowV; first | (rw [if_neg (by omega)]; done) | (rw [if_pos (by omega), if_pos (by omega)]; done) | (rw [if_pos (by omega), if_neg (by omega)]; done)), (by unfold rowU; first | (rw [if_neg (by omega)]; done) | (rw [if_pos (by omega)]; assumption)), (by unfold rowU; first | (rw [if_neg (by omega)]; done) | (rw [if_pos (by omega)]; assumption)), (show ir (0 : Int32).toInt (-3) 0 by decide)⟩, ⟨by rw [ht]; exact hP9, va_K.moved hW.alike hK, hD9⟩⟩, hS.F ht⟩) hS.2.2 dX12_row_83
      have f60 := (show j57_l4.toInt < p2.toInt from z_nle rfl rfl c60)
      have r60a : ir j57_l4.toInt 0 59 := ir_lta f60 hj57_l4 r34a (by decide)
      have r60b : ir p2.toInt 1 60 := ir_ltb f60 hj57_l4 r34a (by decide)
      refine lv_aload_n hx hb dX12_row_63 rfl (lv_at hl 0 rfl) ?_
      refine va_get (D := g) (ci := 11) (v := .ref (m_a 3)) (C := RX12) (T := TX12) (N := 56) hx hb hts iX12 hown hK hP 0 rfl rfl 3 (by decide) (hts (.fieldLink RX12 16 "CardsAtYuleModel" "cells" "[J") (List.mem_cons_of_mem _ (List.mem_append_left _ (List.mem_of_getElem? (i := 9) rfl)))) (fun _ h9 => h9) rfl dX12_row_64 ?_
      refine lv_bipush (v := 60) hx hb dX12_row_67 (by decide) ?_
      refine lv_iload_n hx hb dX12_row_69 rfl (lv_at hl 1 rfl) ?_
      refine lv_imul hx hb dX12_row_70 ?_
      refine lv_topi (fun y70 e70 => ?_)
      have q70 : y70.toInt = 60 * p0.toInt := by rw [e70]; exact mu_z rfl rfl (ir_c 60) r6_1a (by decide) (by decide) (by decide)
      have r70 : ir y70.toInt 0 180 := mu_r q70 (ir_c 60) r6_1a (by decide) (by decide) (by decide) (by decide)
      refine lv_iload hx hb dX12_row_71 (lv_at hl 3 rfl) ?_
      refine lv_iadd hx hb dX12_row_73 ?_
      refine lv_topi (fun y73 e73 => ?_)
      have q73 : y73.toInt = y70.toInt + j57_l4.toInt := by rw [e73]; exact ad_z rfl rfl r70 r60a (by decide) (by decide)
      have r73 : ir y73.toInt 0 239 := ad_r q73 r70 r60a (by decide) (by decide)
      refine lv_lconst (v := 0) hx hb dX12_row_74 (by decide) ?_
      refine va_last (D := g) hx hb hK hP hD hS 3 1 rfl rfl (vi_rg rfl r73 (by decide) (by decide)) dX12_row_75 (fun H locs hP hD hS => ?_)
      obtain ⟨g75, e75⟩ : ∃ z, z = vp_updL j57_m_a3_c y73.toNatClampNeg (0 : Int64) := ⟨_, rfl⟩
      have hP : va_P g vwCl [(m, .inr (11, mG m_a 0 m_taped m_at m_token m_place m_value m_word m_bad m_badPlace m_fault m_faultPlace m_willing m_will m_forgot m_isDrawn m_x m_begin m_round m_roundCards m_fate m_any m_bothSend m_meanCards m_bestSum m_fitMany m_fitFirst m_fitSecond)), ((m_a 1), .inl (cI, 4, .inl g46)), ((m_a 2), .inl (cI, 4, .inl g53)), ((m_a 3), .inl (cJ, 240, .inr (.inl (vp_updL j57_m_a3_c y73.toNatClampNeg (0 : Int64)))))] H := hP
      have hD : va_D A [(m, .inr (11, mG m_a 0 m_taped m_at m_token m_place m_value m_word m_bad m_badPlace m_fault m_faultPlace m_willing m_will m_forgot m_isDrawn m_x m_begin m_round m_roundCards m_fate m_any m_bothSend m_meanCards m_bestSum m_fitMany m_fitFirst m_fitSecond)), ((m_a 1), .inl (cI, 4, .inl g46)), ((m_a 2), .inl (cI, 4, .inl g53)), ((m_a 3), .inl (cJ, 240, .inr (.inl (vp_updL j57_m_a3_c y73.toNatClampNeg (0 : Int64)))))] := hD
      rw [← e75] at hP hD
      obtain ⟨y76, e76⟩ : ∃ y : Int32, y = j57_l4 + 1 := ⟨_, rfl⟩
      have q76 : y76.toInt = j57_l4.toInt + 1 := by rw [e76]; exact ad_z rfl rfl r60a (ir_c 1) (by decide) (by decide)
      have r76 : ir y76.toInt 1 60 := ad_r q76 r60a (ir_c 1) (by decide) (by decide)
      refine lv_iinc (v := y76) (lv' := [(4, .int y76), (0, .ref m), (1, .int p0), (3, .int p2)]) hx hb dX12_row_76 hl (k := 3) rfl e76.symm (by decide) rfl (fun ls hl => ?_)
      refine lv_goto (tgt := 57) hx hb dX12_row_79 (by decide) ?_
      exact ih57 y76 g75 _ _ _ (by omega) (ir_w r76 (by decide) (by decide)) (hP.sub [0, 1, 2, 3] rfl) (hD.sub [0, 1, 2, 3] (by decide) rfl) hS (lv_sub hl [1, 2, 3, 0] rfl)
  exact J57 _ 0 m_cells_c _ _ _ (Nat.lt_succ_self _) (by decide) (hP.sub [0, 1, 2, 3] rfl) (hD.sub [0, 1, 2, 3] (by decide) rfl) hS (lv_sub hl [1, 2, 4, 0] rfl)
def v_X12_keepF : List Cond := .code yX12_keep cX12_keep 2 (some .int) :: (([.fieldLink RX12 107 "CardsAtYuleModel" "thrown" "I", .constantLong RX12 284 (2), .methodLink RX12 112 yX12_in, .static yX12_in, .initialized RX12, .methodLink RX12 263 yX12_copyLand, .instanceMethod yX12_copyLand, .selects RX12 yX12_copyLand yX12_copyLand, .fieldLink RX12 49 "CardsAtYuleModel" "isKept" "[Z"] : List Cond) ++ (v_X12_inN ++ (v_X12_copyLand ++ (wsX120 ++ ([] : List Cond)))))
theorem good_v_X12_keepF : v_X12_keepF.all goodWord = true := ga_c (by decide +kernel) (ga_a (by decide +kernel) (ga_a good_v_X12_inN (ga_a good_v_X12_copyLand (ga_a good_wsX120 rfl))))
set_option maxHeartbeats 4000000 in
set_option maxRecDepth 100000 in
theorem q_X12_keepF (l : Launch) (g : va_G) (cI cJ cB cZ cL : ClassId) (p0 : Int32) (m : Nat) (m_a : Nat → Nat) (m_thrown : Int32) (m_taped : Int32) (m_at : Int32) (m_token : Int32) (m_place : Int32) (m_value : Int32) (m_word : Int64) (m_bad : Int32) (m_badPlace : Int32) (m_fault : Int32) (m_faultPlace : Int32) (m_willing : Int32) (m_will : Int32) (m_forgot : Int32) (m_isDrawn : Int32) (m_x : Int64) (m_begin : Int32) (m_round : Int32) (m_roundCards : Int32) (m_fate : Int32) (m_any : Int64) (m_bothSend : Int64) (m_meanCards : Int64) (m_bestSum : Int32) (m_fitMany : Int32) (m_fitFirst : Int64) (m_fitSecond : Int64) (m_lines_c : Nat → Int32) (m_has_c : Nat → Int32) (m_person_c : Nat → Int32) (m_pair_c : Nat → Int32) (m_lost_c : Nat → Int64) (m_strikes_c : Nat → Int64) (m_isKept_c : Nat → Int32) (sz : Nat) (hv_m_taped : ir m_taped.toInt 0 1600) (hv_m_at : ir m_at.toInt 0 1600) (hv_m_will : ir m_will.toInt 0 1) (hv_m_isDrawn : ir m_isDrawn.toInt 0 1) (ha_m_has_c : hasI m_has_c) (ha_m_person_c : perI m_person_c) (ha_m_pair_c : ar m_pair_c 240 0 15) (ha_m_isKept_c : ar m_isKept_c 3 0 1) : Met l yX12_keep v_X12_keepF ({ frames := 2, cells := 0, slots := 0, locals := 47 }) (va_Pc [.ref m, .int p0] (pRW g (tyT cI cJ cB cZ cL) [(m, .inr (11, mG m_a m_thrown m_taped m_at m_token m_place m_value m_word m_bad m_badPlace m_fault m_faultPlace m_willing m_will m_forgot m_isDrawn m_x m_begin m_round m_roundCards m_fate m_any m_bothSend m_meanCards m_bestSum m_fitMany m_fitFirst m_fitSecond)), ((m_a 16), .inl (cI, 5, .inl m_lines_c)), ((m_a 17), .inl (cI, 25, .inl m_has_c)), ((m_a 18), .inl (cI, 250, .inl m_person_c)), ((m_a 19), .inl (cI, 240, .inl m_pair_c)), ((m_a 20), .inl (cJ, 160, .inr (.inl m_lost_c))), ((m_a 21), .inl (cJ, 5, .inr (.inl m_strikes_c))), ((m_a 22), .inl (cZ, 3, .inl m_isKept_c))] sz)) (va_Qi (fun (r : Int32) (u : Int32 × (Nat → Int32) × (Nat → Int32) × (Nat → Int32) × (Nat → Int32) × (Nat → Int64) × (Nat → Int64) × (Nat → Int32)) => match u with | (n_m_thrown, n_m_lines_c, n_m_has_c, n_m_person_c, n_m_pair_c, n_m_lost_c, n_m_strikes_c, n_m_isKept_c) => (ir n_m_thrown.toInt 0 0) ∧ (hasI n_m_has_c) ∧ (perI n_m_person_c) ∧ (ar n_m_pair_c 240 0 15) ∧ (ar n_m_isKept_c 3 0 1) ∧ (r = keepV p0) ∧ (n_m_isKept_c = keepU p0 m_isKept_c) ∧ (ir r.toInt (-2) 0)) (fun (u : Int32 × (Nat → Int32) × (Nat → Int32) × (Nat → Int32) × (Nat → Int32) × (Nat → Int64) × (Nat → Int64) × (Nat → Int32)) (t : State) => bRW g (tyT cI cJ cB cZ cL) (va_A [(m, .inr (11, mG m_a m_thrown m_taped m_at m_token m_place m_value m_word m_bad m_badPlace m_fault m_faultPlace m_willing m_will m_forgot m_isDrawn m_x m_begin m_round m_roundCards m_fate m_any m_bothSend m_meanCards m_bestSum m_fitMany m_fitFirst m_fitSecond)), ((m_a 16), .inl (cI, 5, .inl m_lines_c)), ((m_a 17), .inl (cI, 25, .inl m_has_c)), ((m_a 18), .inl (cI, 250, .inl m_person_c)), ((m_a 19), .inl (cI, 240, .inl m_pair_c)), ((m_a 20), .inl (cJ, 160, .inr (.inl m_lost_c))), ((m_a 21), .inl (cJ, 5, .inr (.inl m_strikes_c))), ((m_a 22), .inl (cZ, 3, .inl m_isKept_c))] sz) (match u with | (n_m_thrown, n_m_lines_c, n_m_has_c, n_m_person_c, n_m_pair_c, n_m_lost_c, n_m_strikes_c, n_m_isKept_c) => [(m, .inr (11, mG m_a n_m_thrown m_taped m_at m_token m_place m_value m_word m_bad m_badPlace m_fault m_faultPlace m_willing m_will m_forgot m_isDrawn m_x m_begin m_round m_roundCards m_fate m_any m_bothSend m_meanCards m_bestSum m_fitMany m_fitFirst m_fitSecond)), ((m_a 16), .inl (cI, 5, .inl n_m_lines_c)), ((m_a 17), .inl (cI, 25, .inl n_m_has_c)), ((m_a 18), .inl (cI, 250, .inl n_m_person_c)), ((m_a 19), .inl (cI, 240, .inl n_m_pair_c)), ((m_a 20), .inl (cJ, 160, .inr (.inl n_m_lost_c))), ((m_a 21), .inl (cJ, 5, .inr (.inl n_m_strikes_c))), ((m_a 22), .inl (cZ, 3, .inl n_m_isKept_c))]) t) (va_A [(m, .inr (11, mG m_a m_thrown m_taped m_at m_token m_place m_value m_word m_bad m_badPlace m_fault m_faultPlace m_willing m_will m_forgot m_isDrawn m_x m_begin m_round m_roundCards m_fate m_any m_bothSend m_meanCards m_bestSum m_fitMany m_fitFirst m_fitSecond)), ((m_a 16), .inl (cI, 5, .inl m_lines_c)), ((m_a 17), .inl (cI, 25, .inl m_has_c)), ((m_a 18), .inl (cI, 250, .inl m_person_c)), ((m_a 19), .inl (cI, 240, .inl m_pair_c)), ((m_a 20), .inl (cJ, 160, .inr (.inl m_lost_c))), ((m_a 21), .inl (cJ, 5, .inr (.inl m_strikes_c))), ((m_a 22), .inl (cZ, 3, .inl m_isKept_c))] sz)) 0 0 (va_A [(m, .inr (11, mG m_a m_thrown m_taped m_at m_token m_place m_value m_word m_bad m_badPlace m_fault m_faultPlace m_willing m_will m_forgot m_isDrawn m_x m_begin m_round m_roundCards m_fate m_any m_bothSend m_meanCards m_bestSum m_fitMany m_fitFirst m_fitSecond)), ((m_a 16), .inl (cI, 5, .inl m_lines_c)), ((m_a 17), .inl (cI, 25, .inl m_has_c)), ((m_a 18), .inl (cI, 250, .inl m_person_c)), ((m_a 19), .inl (cI, 240, .inl m_pair_c)), ((m_a 20), .inl (cJ, 160, .inr (.inl m_lost_c))), ((m_a 21), .inl (cJ, 5, .inr (.inl m_strikes_c))), ((m_a 22), .inl (cZ, 3, .inl m_isKept_c))] sz) := by
  refine Met.ofW (cc := cX12_keep) (maxL := 2) (ret := (some .int)) (by decide) rfl ?_
  intro p e s mth args below meth c s₁ B hml hv
  obtain ⟨rfl, hsz, hP, hK, hD0⟩ := hv
  have hx := B.exec
  have hb := B.bytes
  have hr := B.returns
  have hts := atoms_spec (ws := v_X12_keepF) B.pre
  have hown : s.vm.findClass RX12 = some mth.cls := findClass_of_methodNamed B.named
  have hlocks := B.notSynchronized
  clear B
  subst hsz
  have iX12 : ∀ w ∈ wsX120, w ∈ v_X12_keepF := (fun _ h => List.mem_cons_of_mem _ (List.mem_append_right _ (List.mem_append_right _ (List.mem_append_right _ (List.mem_append_left _ h)))))
  have hD := hD0.self (sz := s.heap.size)
  generalize hAe : (va_A [(m, .inr (11, mG m_a m_thrown m_taped m_at m_token m_place m_value m_word m_bad m_badPlace m_fault m_faultPlace m_willing m_will m_forgot m_isDrawn m_x m_begin m_round m_roundCards m_fate m_any m_bothSend m_meanCards m_bestSum m_fitMany m_fitFirst m_fitSecond)), ((m_a 16), .inl (cI, 5, .inl m_lines_c)), ((m_a 17), .inl (cI, 25, .inl m_has_c)), ((m_a 18), .inl (cI, 250, .inl m_person_c)), ((m_a 19), .inl (cI, 240, .inl m_pair_c)), ((m_a 20), .inl (cJ, 160, .inr (.inl m_lost_c))), ((m_a 21), .inl (cJ, 5, .inr (.inl m_strikes_c))), ((m_a 22), .inl (cZ, 3, .inl m_isKept_c))] s.heap.size) = A at hD ⊢
  have hA : ∀ q : Nat, s.heap.size ≤ q → A q := fun q h => by rw [← hAe]; exact Or.inr h
  have hS : va_S A s.heap s.heap [] := va_S.rf
  have hl := lv_entry ([.ref m, .int p0]) (n := 2) (Nat.le_of_ble_eq_true rfl)
  rw [lg_entry_eq]
  generalize (lg_sl ([.ref m, .int p0]) ++ List.replicate (2 - (lg_sl ([.ref m, .int p0])).length) Slot.unset).toArray = ls at hl ⊢
  generalize ([.ref m, .int p0] : List Value).toArray = av at hts ⊢
  generalize hQ : MQ below _ av s _ _ A = QQ
  have hl : lv_has ls 2 [(0, .ref m), (1, .int p0)] := hl
  have hP : va_P g vwCl [(m, .inr (11, mG m_a m_thrown m_taped m_at m_token m_place m_value m_word m_bad m_badPlace m_fault m_faultPlace m_willing m_will m_forgot m_isDrawn m_x m_begin m_round m_roundCards m_fate m_any m_bothSend m_meanCards m_bestSum m_fitMany m_fitFirst m_fitSecond)), ((m_a 16), .inl (cI, 5, .inl m_lines_c)), ((m_a 17), .inl (cI, 25, .inl m_has_c)), ((m_a 18), .inl (cI, 250, .inl m_person_c)), ((m_a 19), .inl (cI, 240, .inl m_pair_c)), ((m_a 20), .inl (cJ, 160, .inr (.inl m_lost_c))), ((m_a 21), .inl (cJ, 5, .inr (.inl m_strikes_c))), ((m_a 22), .inl (cZ, 3, .inl m_isKept_c))] s.heap := hP
  refine lv_aload_n hx hb dX12_keep_0 rfl (lv_at hl 0 rfl) ?_
  refine lv_iconst (v := 0) hx hb dX12_keep_1 (by decide) ?_
  refine va_put (D := g) (ci := 11) (v := .int 0) (ty := .int) (C := RX12) (T := TX12) (N := 56) hx hb hts iX12 tyX12 tyX12_ok nmX12 hown hK hP hD hS 0 rfl rfl 0 (by decide) (hts (.fieldLink RX12 107 "CardsAtYuleModel" "thrown" "I") (List.mem_cons_of_mem _ (List.mem_append_left _ (List.mem_of_getElem? (i := 0) rfl)))) (fun _ h9 => h9) rfl (by decide +kernel) rfl rfl (Nat.le_of_ble_eq_true rfl) dX12_keep_2 (fun H locs hP hD hS => ?_)
  have hP : va_P g vwCl [(m, .inr (11, mG m_a 0 m_taped m_at m_token m_place m_value m_word m_bad m_badPlace m_fault m_faultPlace m_willing m_will m_forgot m_isDrawn m_x m_begin m_round m_roundCards m_fate m_any m_bothSend m_meanCards m_bestSum m_fitMany m_fitFirst m_fitSecond)), ((m_a 16), .inl (cI, 5, .inl m_lines_c)), ((m_a 17), .inl (cI, 25, .inl m_has_c)), ((m_a 18), .inl (cI, 250, .inl m_person_c)), ((m_a 19), .inl (cI, 240, .inl m_pair_c)), ((m_a 20), .inl (cJ, 160, .inr (.inl m_lost_c))), ((m_a 21), .inl (cJ, 5, .inr (.inl m_strikes_c))), ((m_a 22), .inl (cZ, 3, .inl m_isKept_c))] H := hP
  have hD : va_D A [(m, .inr (11, mG m_a 0 m_taped m_at m_token m_place m_value m_word m_bad m_badPlace m_fault m_faultPlace m_willing m_will m_forgot m_isDrawn m_x m_begin m_round m_roundCards m_fate m_any m_bothSend m_meanCards m_bestSum m_fitMany m_fitFirst m_fitSecond)), ((m_a 16), .inl (cI, 5, .inl m_lines_c)), ((m_a 17), .inl (cI, 25, .inl m_has_c)), ((m_a 18), .inl (cI, 250, .inl m_person_c)), ((m_a 19), .inl (cI, 240, .inl m_pair_c)), ((m_a 20), .inl (cJ, 160, .inr (.inl m_lost_c))), ((m_a 21), .inl (cJ, 5, .inr (.inl m_strikes_c))), ((m_a 22), .inl (cZ, 3, .inl m_isKept_c))] := hD
  refine lv_iload_n hx hb dX12_keep_5 rfl (lv_at hl 1 rfl) ?_
  refine lv_i2l (v := p0.toInt64) hx hb dX12_keep_6 rfl ?_
  refine lv_lconst (v := 0) hx hb dX12_keep_7 (by decide) ?_
  refine lv_ldc2 (v := 2) hx hb hown (hts (.constantLong RX12 284 (2)) (List.mem_cons_of_mem _ (List.mem_append_left _ (List.mem_of_getElem? (i := 1) rfl)))) dX12_keep_8 ?_
  refine ro_i (va_runS (As := [.long p0.toInt64, .long 0, .long 2]) (rest := []) ⟨hx, hb, hml, hown, hts⟩ (q_X12_inN l g cI cJ cB cZ cL p0.toInt64 p0.toInt 0 0 2 2 H.size (z_i2l rfl) rfl rfl) (va_cwS 3 hts (goodIn_app (g_3 (List.mem_cons_of_mem _ (List.mem_append_left _ (List.mem_of_getElem? (i := 2) rfl))) (List.mem_cons_of_mem _ (List.mem_append_left _ (List.mem_of_getElem? (i := 3) rfl))) (List.mem_cons_of_mem _ (List.mem_append_left _ (List.mem_of_getElem? (i := 4) rfl))) (by decide +kernel)) (goodIn_sub (fun _ h => List.mem_cons_of_mem _ (List.mem_append_right _ (List.mem_append_left _ h))) good_v_X12_inN)) rfl rfl rfl (by decide +kernel) ⟨Nat.le_of_ble_eq_true rfl, Nat.le_of_ble_eq_true rfl⟩) (ps_RO (wc := []) hK hP [] rfl) rfl rfl hl.1 rfl (lv_room (Nat.le_of_ble_eq_true rfl)) dX12_keep_11 ⟨Nat.le_of_ble_eq_true rfl, Nat.le_of_ble_eq_true rfl⟩) hS hA hP (fun r11 u11 H locs hw11 hP hS => ?_)
  have hw11_0 := hw11
  rcases hw11_0 with ⟨er11, fc11_0, fc11_1⟩ | ⟨er11, fc11_0⟩
  rotate_left 1
  · subst er11
    have fc11_0 : ¬ (0 ≤ p0.toInt ∧ p0.toInt ≤ 2) := fc11_0
    refine lv_if_ne (tgt := 20) hx hb dX12_keep_14 (by decide) (fun c => absurd c (by decide)) (fun _ => ?_)
    refine lv_bipush (v := (-2)) hx hb dX12_keep_17 (by decide) ?_
    subst hQ
    have hP9 := hP.sub (ws' := [(m, .inr (11, mG m_a 0 m_taped m_at m_token m_place m_value m_word m_bad m_badPlace m_fault m_faultPlace m_willing m_will m_forgot m_isDrawn m_x m_begin m_round m_roundCards m_fate m_any m_bothSend m_meanCards m_bestSum m_fitMany m_fitFirst m_fitSecond)), ((m_a 16), .inl (cI, 5, .inl m_lines_c)), ((m_a 17), .inl (cI, 25, .inl m_has_c)), ((m_a 18), .inl (cI, 250, .inl m_person_c)), ((m_a 19), .inl (cI, 240, .inl m_pair_c)), ((m_a 20), .inl (cJ, 160, .inr (.inl m_lost_c))), ((m_a 21), .inl (cJ, 5, .inr (.inl m_strikes_c))), ((m_a 22), .inl (cZ, 3, .inl m_isKept_c))]) [0, 1, 2, 3, 4, 5, 6, 7] rfl
    have hD9 := hD.sub (ws' := [(m, .inr (11, mG m_a 0 m_taped m_at m_token m_place m_value m_word m_bad m_badPlace m_fault m_faultPlace m_willing m_will m_forgot m_isDrawn m_x m_begin m_round m_roundCards m_fate m_any m_bothSend m_meanCards m_bestSum m_fitMany m_fitFirst m_fitSecond)), ((m_a 16), .inl (cI, 5, .inl m_lines_c)), ((m_a 17), .inl (cI, 25, .inl m_has_c)), ((m_a 18), .inl (cI, 250, .inl m_person_c)), ((m_a 19), .inl (cI, 240, .inl m_pair_c)), ((m_a 20), .inl (cJ, 160, .inr (.inl m_lost_c))), ((m_a 21), .inl (cJ, 5, .inr (.inl m_strikes_c))), ((m_a 22), .inl (cZ, 3, .inl m_isKept_c))]) [0, 1, 2, 3, 4, 5, 6, 7] (by decide) rfl
    exact W.iret (v := (-2)) hx hb hr (fun t ht hW => ⟨⟨(-2), (0, m_lines_c, m_has_c, m_person_c, m_pair_c, m_lost_c, m_strikes_c, m_isKept_c), rfl, ⟨(show ir (0 : Int32).toInt 0 0 by decide), ha_m_has_c, ha_m_person_c, ha_m_pair_c, ha_m_isKept_c, (by unfold keepV; first | (rw [if_neg (by omega)]; done) | (rw [if_pos (by omega)]; done)), (by unfold keepU; first | (rw [if_neg (by omega)]; done) | (rw [if_pos (by omega)]; exact e34.trans rfl)), (show ir ((-2) : Int32).toInt (-2) 0 by decide)⟩, ⟨by rw [ht]; exact hP9, va_K.moved hW.alike hK, hD9⟩⟩, hS.F ht⟩) hS.2.2 dX12_keep_19
  subst er11
  have fc11_0 : 0 ≤ p0.toInt := fc11_0
  have r11_0b : ir p0.toInt 0 2147483647 := ir_leb fc11_0 (ir_c 0) (rg_all p0) (by decide)
  have fc11_1 : p0.toInt ≤ 2 := fc11_1
  have r11_1a : ir p0.toInt 0 2 := ir_lea fc11_1 r11_0b (ir_c 2) (by decide)
  refine lv_if_ne (tgt := 20) hx hb dX12_keep_14 (by decide) (fun _ => ?_) (fun c => absurd c (by decide))
  refine lv_aload_n hx hb dX12_keep_20 rfl (lv_at hl 0 rfl) ?_
  refine lv_iconst (v := 0) hx hb dX12_keep_21 (by decide) ?_
  refine lv_iconst (v := 1) hx hb dX12_keep_22 (by decide) ?_
  refine lv_iload_n hx hb dX12_keep_23 rfl (lv_at hl 1 rfl) ?_
  refine lv_iadd hx hb dX12_keep_24 ?_
  refine lv_topi (fun y24 e24 => ?_)
  have q24 : y24.toInt = 1 + p0.toInt := by rw [e24]; exact ad_z rfl rfl (ir_c 1) r11_1a (by decide) (by decide)
  have r24 : ir y24.toInt 1 3 := ad_r q24 (ir_c 1) r11_1a (by decide) (by decide)
  refine rw_v (wr := [((m_a 22), .inl (cZ, 3, .inl m_isKept_c))]) (va_runV (As := [.int 0, .int y24]) (rest := []) ⟨hx, hb, hml, hown, hts⟩ (q_X12_copyLand l g cI cJ cB cZ cL 0 y24 m m_a 0 m_taped m_at m_token m_place m_value m_word m_bad m_badPlace m_fault m_faultPlace m_willing m_will m_forgot m_isDrawn m_x m_begin m_round m_roundCards m_fate m_any m_bothSend m_meanCards m_bestSum m_fitMany m_fitFirst m_fitSecond m_lines_c m_has_c m_person_c m_pair_c m_lost_c m_strikes_c H.size (by decide) (ir_w r24 (by decide) (by decide)) hv_m_taped hv_m_at hv_m_will hv_m_isDrawn ha_m_has_c ha_m_person_c ha_m_pair_c) (cwV 2 hts (goodIn_app (g_4 (List.mem_cons_of_mem _ (List.mem_append_left _ (List.mem_of_getElem? (i := 5) rfl))) (List.mem_cons_of_mem _ (List.mem_append_left _ (List.mem_of_getElem? (i := 6) rfl))) (List.mem_cons_of_mem _ (List.mem_append_left _ (List.mem_of_getElem? (i := 7) rfl))) (List.mem_cons_of_mem _ (List.mem_append_left _ (List.mem_of_getElem? (i := 4) rfl))) (by decide +kernel)) (goodIn_sub (fun _ h => List.mem_cons_of_mem _ (List.mem_append_right _ (List.mem_append_right _ (List.mem_append_left _ h)))) good_v_X12_copyLand)) rfl rfl rfl (by decide +kernel) ⟨Nat.le_of_ble_eq_true rfl, Nat.le_of_ble_eq_true rfl⟩) (pv_RW (q := (RX12, TX12, 56)) (ci := 11) (q0 := 0) (wc := [(m, .inr (11, mG m_a 0 m_taped m_at m_token m_place m_value m_word m_bad m_badPlace m_fault m_faultPlace m_willing m_will m_forgot m_isDrawn m_x m_begin m_round m_roundCards m_fate m_any m_bothSend m_meanCards m_bestSum m_fitMany m_fitFirst m_fitSecond)), ((m_a 16), .inl (cI, 5, .inl m_lines_c)), ((m_a 17), .inl (cI, 25, .inl m_has_c)), ((m_a 18), .inl (cI, 250, .inl m_person_c)), ((m_a 19), .inl (cI, 240, .inl m_pair_c)), ((m_a 20), .inl (cJ, 160, .inr (.inl m_lost_c))), ((m_a 21), .inl (cJ, 5, .inr (.inl m_strikes_c)))]) hK hP hD [0, 1, 2, 3, 4, 5, 6] (by decide) rfl rfl rfl) rfl rfl hl.1 rfl (lv_room (Nat.le_of_ble_eq_true rfl)) dX12_keep_25 ⟨Nat.le_of_ble_eq_true rfl, Nat.le_of_ble_eq_true rfl⟩) hS hA hP hD [0, 1, 2, 3, 4, 5, 6] [7] rfl rfl (by decide) (by decide) (fun u25 H locs hw25 hP hD hS => ?_)
  obtain ⟨n_m_lines_c_25, n_m_has_c_25, n_m_person_c_25, n_m_pair_c_25, n_m_lost_c_25, n_m_strikes_c_25⟩ := u25
  have hP : va_P g vwCl [((m_a 22), .inl (cZ, 3, .inl m_isKept_c)), (m, .inr (11, mG m_a 0 m_taped m_at m_token m_place m_value m_word m_bad m_badPlace m_fault m_faultPlace m_willing m_will m_forgot m_isDrawn m_x m_begin m_round m_roundCards m_fate m_any m_bothSend m_meanCards m_bestSum m_fitMany m_fitFirst m_fitSecond)), ((m_a 16), .inl (cI, 5, .inl n_m_lines_c_25)), ((m_a 17), .inl (cI, 25, .inl n_m_has_c_25)), ((m_a 18), .inl (cI, 250, .inl n_m_person_c_25)), ((m_a 19), .inl (cI, 240, .inl n_m_pair_c_25)), ((m_a 20), .inl (cJ, 160, .inr (.inl n_m_lost_c_25))), ((m_a 21), .inl (cJ, 5, .inr (.inl n_m_strikes_c_25)))] H := hP
  have hD : va_D A [((m_a 22), .inl (cZ, 3, .inl m_isKept_c)), (m, .inr (11, mG m_a 0 m_taped m_at m_token m_place m_value m_word m_bad m_badPlace m_fault m_faultPlace m_willing m_will m_forgot m_isDrawn m_x m_begin m_round m_roundCards m_fate m_any m_bothSend m_meanCards m_bestSum m_fitMany m_fitFirst m_fitSecond)), ((m_a 16), .inl (cI, 5, .inl n_m_lines_c_25)), ((m_a 17), .inl (cI, 25, .inl n_m_has_c_25)), ((m_a 18), .inl (cI, 250, .inl n_m_person_c_25)), ((m_a 19), .inl (cI, 240, .inl n_m_pair_c_25)), ((m_a 20), .inl (cJ, 160, .inr (.inl n_m_lost_c_25))), ((m_a 21), .inl (cJ, 5, .inr (.inl n_m_strikes_c_25)))] := hD
  dsimp only at hw25
  obtain ⟨hw25_0, hw25_1, hw25_2⟩ := hw25
  refine lv_aload_n hx hb dX12_keep_28 rfl (lv_at hl 0 rfl) ?_
  refine va_get (D := g) (ci := 11) (v := .ref (m_a 22)) (C := RX12) (T := TX12) (N := 56) hx hb hts iX12 hown hK hP 1 rfl rfl 22 (by decide) (hts (.fieldLink RX12 49 "CardsAtYuleModel" "isKept" "[Z") (List.mem_cons_of_mem _ (List.mem_append_left _ (List.mem_of_getElem? (i := 8) rfl)))) (fun _ h9 => h9) rfl dX12_keep_29 ?_
  refine lv_iload_n hx hb dX12_keep_32 rfl (lv_at hl 1 rfl) ?_
  refine lv_iconst (v := 1) hx hb dX12_keep_33 (by decide) ?_
  refine va_zast (D := g) hx hb hK hP hD hS 0 3 rfl rfl (vi_rg rfl r11_1a (by decide) (by decide)) dX12_keep_34 (fun H locs hP hD hS => ?_)
  obtain ⟨g34, e34⟩ : ∃ z, z = upd m_isKept_c p0.toNatClampNeg (vp_nar .boolean (1 : Int32)) := ⟨_, rfl⟩
  have hP : va_P g vwCl [((m_a 22), .inl (cZ, 3, .inl (upd m_isKept_c p0.toNatClampNeg (vp_nar .boolean (1 : Int32))))), (m, .inr (11, mG m_a 0 m_taped m_at m_token m_place m_value m_word m_bad m_badPlace m_fault m_faultPlace m_willing m_will m_forgot m_isDrawn m_x m_begin m_round m_roundCards m_fate m_any m_bothSend m_meanCards m_bestSum m_fitMany m_fitFirst m_fitSecond)), ((m_a 16), .inl (cI, 5, .inl n_m_lines_c_25)), ((m_a 17), .inl (cI, 25, .inl n_m_has_c_25)), ((m_a 18), .inl (cI, 250, .inl n_m_person_c_25)), ((m_a 19), .inl (cI, 240, .inl n_m_pair_c_25)), ((m_a 20), .inl (cJ, 160, .inr (.inl n_m_lost_c_25))), ((m_a 21), .inl (cJ, 5, .inr (.inl n_m_strikes_c_25)))] H := hP
  have hD : va_D A [((m_a 22), .inl (cZ, 3, .inl (upd m_isKept_c p0.toNatClampNeg (vp_nar .boolean (1 : Int32))))), (m, .inr (11, mG m_a 0 m_taped m_at m_token m_place m_value m_word m_bad m_badPlace m_fault m_faultPlace m_willing m_will m_forgot m_isDrawn m_x m_begin m_round m_roundCards m_fate m_any m_bothSend m_meanCards m_bestSum m_fitMany m_fitFirst m_fitSecond)), ((m_a 16), .inl (cI, 5, .inl n_m_lines_c_25)), ((m_a 17), .inl (cI, 25, .inl n_m_has_c_25)), ((m_a 18), .inl (cI, 250, .inl n_m_person_c_25)), ((m_a 19), .inl (cI, 240, .inl n_m_pair_c_25)), ((m_a 20), .inl (cJ, 160, .inr (.inl n_m_lost_c_25))), ((m_a 21), .inl (cJ, 5, .inr (.inl n_m_strikes_c_25)))] := hD
  rw [← e34] at hP hD
  have a34 : ar g34 3 0 1 := by rw [e34]; exact ar_u ha_m_isKept_c (bo_r _)
  refine lv_iconst (v := 0) hx hb dX12_keep_35 (by decide) ?_
  subst hQ
  have hP9 := hP.sub (ws' := [(m, .inr (11, mG m_a 0 m_taped m_at m_token m_place m_value m_word m_bad m_badPlace m_fault m_faultPlace m_willing m_will m_forgot m_isDrawn m_x m_begin m_round m_roundCards m_fate m_any m_bothSend m_meanCards m_bestSum m_fitMany m_fitFirst m_fitSecond)), ((m_a 16), .inl (cI, 5, .inl n_m_lines_c_25)), ((m_a 17), .inl (cI, 25, .inl n_m_has_c_25)), ((m_a 18), .inl (cI, 250, .inl n_m_person_c_25)), ((m_a 19), .inl (cI, 240, .inl n_m_pair_c_25)), ((m_a 20), .inl (cJ, 160, .inr (.inl n_m_lost_c_25))), ((m_a 21), .inl (cJ, 5, .inr (.inl n_m_strikes_c_25))), ((m_a 22), .inl (cZ, 3, .inl g34))]) [1, 2, 3, 4, 5, 6, 7, 0] rfl
  have hD9 := hD.sub (ws' := [(m, .inr (11, mG m_a 0 m_taped m_at m_token m_place m_value m_word m_bad m_badPlace m_fault m_faultPlace m_willing m_will m_forgot m_isDrawn m_x m_begin m_round m_roundCards m_fate m_any m_bothSend m_meanCards m_bestSum m_fitMany m_fitFirst m_fitSecond)), ((m_a 16), .inl (cI, 5, .inl n_m_lines_c_25)), ((m_a 17), .inl (cI, 25, .inl n_m_has_c_25)), ((m_a 18), .inl (cI, 250, .inl n_m_person_c_25)), ((m_a 19), .inl (cI, 240, .inl n_m_pair_c_25)), ((m_a 20), .inl (cJ, 160, .inr (.inl n_m_lost_c_25))), ((m_a 21), .inl (cJ, 5, .inr (.inl n_m_strikes_c_25))), ((m_a 22), .inl (cZ, 3, .inl g34))]) [1, 2, 3, 4, 5, 6, 7, 0] (by decide) rfl
  exact W.iret (v := 0) hx hb hr (fun t ht hW => ⟨⟨0, (0, n_m_lines_c_25, n_m_has_c_25, n_m_person_c_25, n_m_pair_c_25, n_m_lost_c_25, n_m_strikes_c_25, g34), rfl, ⟨(show ir (0 : Int32).toInt 0 0 by decide), hw25_0, hw25_1, hw25_2, a34, (by unfold keepV; first | (rw [if_neg (by omega)]; done) | (rw [if_pos (by omega)]; done)), (by unfold keepU; first | (rw [if_neg (by omega)]; done) | (rw [if_pos (by omega)]; exact e34.trans rfl)), (show ir (0 : Int32).toInt (-2) 0 by decide)⟩, ⟨by rw [ht]; exact hP9, va_K.moved hW.alike hK, hD9⟩⟩, hS.F ht⟩) hS.2.2 dX12_keep_36
def v_X12_onF : List Cond := .code yX12_on cX12_on 2 (some .int) :: (([.fieldLink RX12 107 "CardsAtYuleModel" "thrown" "I", .constantLong RX12 284 (2), .methodLink RX12 112 yX12_in, .static yX12_in, .initialized RX12, .fieldLink RX12 49 "CardsAtYuleModel" "isKept" "[Z", .methodLink RX12 263 yX12_copyLand, .instanceMethod yX12_copyLand, .selects RX12 yX12_copyLand yX12_copyLand] : List Cond) ++ (v_X12_inN ++ (v_X12_copyLand ++ (wsX120 ++ ([] : List Cond)))))
theorem good_v_X12_onF : v_X12_onF.all goodWord = true := ga_c (by decide +kernel) (ga_a (by decide +kernel) (ga_a good_v_X12_inN (ga_a good_v_X12_copyLand (ga_a good_wsX120 rfl))))
set_option maxHeartbeats 4000000 in
set_option maxRecDepth 100000 in
theorem q_X12_onF (l : Launch) (g : va_G) (cI cJ cB cZ cL : ClassId) (p0 : Int32) (m : Nat) (m_a : Nat → Nat) (m_thrown : Int32) (m_taped : Int32) (m_at : Int32) (m_token : Int32) (m_place : Int32) (m_value : Int32) (m_word : Int64) (m_bad : Int32) (m_badPlace : Int32) (m_fault : Int32) (m_faultPlace : Int32) (m_willing : Int32) (m_will : Int32) (m_forgot : Int32) (m_isDrawn : Int32) (m_x : Int64) (m_begin : Int32) (m_round : Int32) (m_roundCards : Int32) (m_fate : Int32) (m_any : Int64) (m_bothSend : Int64) (m_meanCards : Int64) (m_bestSum : Int32) (m_fitMany : Int32) (m_fitFirst : Int64) (m_fitSecond : Int64) (m_isKept_c : Nat → Int32) (m_lines_c : Nat → Int32) (m_has_c : Nat → Int32) (m_person_c : Nat → Int32) (m_pair_c : Nat → Int32) (m_lost_c : Nat → Int64) (m_strikes_c : Nat → Int64) (sz : Nat) (hv_m_taped : ir m_taped.toInt 0 1600) (hv_m_at : ir m_at.toInt 0 1600) (hv_m_will : ir m_will.toInt 0 1) (hv_m_isDrawn : ir m_isDrawn.toInt 0 1) (ha_m_isKept_c : ar m_isKept_c 3 0 1) (ha_m_has_c : hasI m_has_c) (ha_m_person_c : perI m_person_c) (ha_m_pair_c : ar m_pair_c 240 0 15) : Met l yX12_on v_X12_onF ({ frames := 2, cells := 0, slots := 0, locals := 47 }) (va_Pc [.ref m, .int p0] (pRW g (tyT cI cJ cB cZ cL) [(m, .inr (11, mG m_a m_thrown m_taped m_at m_token m_place m_value m_word m_bad m_badPlace m_fault m_faultPlace m_willing m_will m_forgot m_isDrawn m_x m_begin m_round m_roundCards m_fate m_any m_bothSend m_meanCards m_bestSum m_fitMany m_fitFirst m_fitSecond)), ((m_a 22), .inl (cZ, 3, .inl m_isKept_c)), ((m_a 16), .inl (cI, 5, .inl m_lines_c)), ((m_a 17), .inl (cI, 25, .inl m_has_c)), ((m_a 18), .inl (cI, 250, .inl m_person_c)), ((m_a 19), .inl (cI, 240, .inl m_pair_c)), ((m_a 20), .inl (cJ, 160, .inr (.inl m_lost_c))), ((m_a 21), .inl (cJ, 5, .inr (.inl m_strikes_c)))] sz)) (va_Qi (fun (r : Int32) (u : Int32 × (Nat → Int32) × (Nat → Int32) × (Nat → Int32) × (Nat → Int32) × (Nat → Int64) × (Nat → Int64)) => match u with | (n_m_thrown, n_m_lines_c, n_m_has_c, n_m_person_c, n_m_pair_c, n_m_lost_c, n_m_strikes_c) => (ir n_m_thrown.toInt 0 0) ∧ (hasI n_m_has_c) ∧ (perI n_m_person_c) ∧ (ar n_m_pair_c 240 0 15) ∧ (r = onV p0.toInt (m_isKept_c p0.toNatClampNeg).toInt) ∧ (ir r.toInt (-6) 0)) (fun (u : Int32 × (Nat → Int32) × (Nat → Int32) × (Nat → Int32) × (Nat → Int32) × (Nat → Int64) × (Nat → Int64)) (t : State) => bRW g (tyT cI cJ cB cZ cL) (va_A [(m, .inr (11, mG m_a m_thrown m_taped m_at m_token m_place m_value m_word m_bad m_badPlace m_fault m_faultPlace m_willing m_will m_forgot m_isDrawn m_x m_begin m_round m_roundCards m_fate m_any m_bothSend m_meanCards m_bestSum m_fitMany m_fitFirst m_fitSecond)), ((m_a 22), .inl (cZ, 3, .inl m_isKept_c)), ((m_a 16), .inl (cI, 5, .inl m_lines_c)), ((m_a 17), .inl (cI, 25, .inl m_has_c)), ((m_a 18), .inl (cI, 250, .inl m_person_c)), ((m_a 19), .inl (cI, 240, .inl m_pair_c)), ((m_a 20), .inl (cJ, 160, .inr (.inl m_lost_c))), ((m_a 21), .inl (cJ, 5, .inr (.inl m_strikes_c)))] sz) (match u with | (n_m_thrown, n_m_lines_c, n_m_has_c, n_m_person_c, n_m_pair_c, n_m_lost_c, n_m_strikes_c) => [(m, .inr (11, mG m_a n_m_thrown m_taped m_at m_token m_place m_value m_word m_bad m_badPlace m_fault m_faultPlace m_willing m_will m_forgot m_isDrawn m_x m_begin m_round m_roundCards m_fate m_any m_bothSend m_meanCards m_bestSum m_fitMany m_fitFirst m_fitSecond)), ((m_a 22), .inl (cZ, 3, .inl m_isKept_c)), ((m_a 16), .inl (cI, 5, .inl n_m_lines_c)), ((m_a 17), .inl (cI, 25, .inl n_m_has_c)), ((m_a 18), .inl (cI, 250, .inl n_m_person_c)), ((m_a 19), .inl (cI, 240, .inl n_m_pair_c)), ((m_a 20), .inl (cJ, 160, .inr (.inl n_m_lost_c))), ((m_a 21), .inl (cJ, 5, .inr (.inl n_m_strikes_c)))]) t) (va_A [(m, .inr (11, mG m_a m_thrown m_taped m_at m_token m_place m_value m_word m_bad m_badPlace m_fault m_faultPlace m_willing m_will m_forgot m_isDrawn m_x m_begin m_round m_roundCards m_fate m_any m_bothSend m_meanCards m_bestSum m_fitMany m_fitFirst m_fitSecond)), ((m_a 22), .inl (cZ, 3, .inl m_isKept_c)), ((m_a 16), .inl (cI, 5, .inl m_lines_c)), ((m_a 17), .inl (cI, 25, .inl m_has_c)), ((m_a 18), .inl (cI, 250, .inl m_person_c)), ((m_a 19), .inl (cI, 240, .inl m_pair_c)), ((m_a 20), .inl (cJ, 160, .inr (.inl m_lost_c))), ((m_a 21), .inl (cJ, 5, .inr (.inl m_strikes_c)))] sz)) 0 0 (va_A [(m, .inr (11, mG m_a m_thrown m_taped m_at m_token m_place m_value m_word m_bad m_badPlace m_fault m_faultPlace m_willing m_will m_forgot m_isDrawn m_x m_begin m_round m_roundCards m_fate m_any m_bothSend m_meanCards m_bestSum m_fitMany m_fitFirst m_fitSecond)), ((m_a 22), .inl (cZ, 3, .inl m_isKept_c)), ((m_a 16), .inl (cI, 5, .inl m_lines_c)), ((m_a 17), .inl (cI, 25, .inl m_has_c)), ((m_a 18), .inl (cI, 250, .inl m_person_c)), ((m_a 19), .inl (cI, 240, .inl m_pair_c)), ((m_a 20), .inl (cJ, 160, .inr (.inl m_lost_c))), ((m_a 21), .inl (cJ, 5, .inr (.inl m_strikes_c)))] sz) := by
  refine Met.ofW (cc := cX12_on) (maxL := 2) (ret := (some .int)) (by decide) rfl ?_
  intro p e s mth args below meth c s₁ B hml hv
  obtain ⟨rfl, hsz, hP, hK, hD0⟩ := hv
  have hx := B.exec
  have hb := B.bytes
  have hr := B.returns
  have hts := atoms_spec (ws := v_X12_onF) B.pre
  have hown : s.vm.findClass RX12 = some mth.cls := findClass_of_methodNamed B.named
  have hlocks := B.notSynchronized
  clear B
  subst hsz
  have iX12 : ∀ w ∈ wsX120, w ∈ v_X12_onF := (fun _ h => List.mem_cons_of_mem _ (List.mem_append_right _ (List.mem_append_right _ (List.mem_append_right _ (List.mem_append_left _ h)))))
  have hD := hD0.self (sz := s.heap.size)
  generalize hAe : (va_A [(m, .inr (11, mG m_a m_thrown m_taped m_at m_token m_place m_value m_word m_bad m_badPlace m_fault m_faultPlace m_willing m_will m_forgot m_isDrawn m_x m_begin m_round m_roundCards m_fate m_any m_bothSend m_meanCards m_bestSum m_fitMany m_fitFirst m_fitSecond)), ((m_a 22), .inl (cZ, 3, .inl m_isKept_c)), ((m_a 16), .inl (cI, 5, .inl m_lines_c)), ((m_a 17), .inl (cI, 25, .inl m_has_c)), ((m_a 18), .inl (cI, 250, .inl m_person_c)), ((m_a 19), .inl (cI, 240, .inl m_pair_c)), ((m_a 20), .inl (cJ, 160, .inr (.inl m_lost_c))), ((m_a 21), .inl (cJ, 5, .inr (.inl m_strikes_c)))] s.heap.size) = A at hD ⊢
  have hA : ∀ q : Nat, s.heap.size ≤ q → A q := fun q h => by rw [← hAe]; exact Or.inr h
  have hS : va_S A s.heap s.heap [] := va_S.rf
  have hl := lv_entry ([.ref m, .int p0]) (n := 2) (Nat.le_of_ble_eq_true rfl)
  rw [lg_entry_eq]
  generalize (lg_sl ([.ref m, .int p0]) ++ List.replicate (2 - (lg_sl ([.ref m, .int p0])).length) Slot.unset).toArray = ls at hl ⊢
  generalize ([.ref m, .int p0] : List Value).toArray = av at hts ⊢
  generalize hQ : MQ below _ av s _ _ A = QQ
  have hl : lv_has ls 2 [(0, .ref m), (1, .int p0)] := hl
  have hP : va_P g vwCl [(m, .inr (11, mG m_a m_thrown m_taped m_at m_token m_place m_value m_word m_bad m_badPlace m_fault m_faultPlace m_willing m_will m_forgot m_isDrawn m_x m_begin m_round m_roundCards m_fate m_any m_bothSend m_meanCards m_bestSum m_fitMany m_fitFirst m_fitSecond)), ((m_a 22), .inl (cZ, 3, .inl m_isKept_c)), ((m_a 16), .inl (cI, 5, .inl m_lines_c)), ((m_a 17), .inl (cI, 25, .inl m_has_c)), ((m_a 18), .inl (cI, 250, .inl m_person_c)), ((m_a 19), .inl (cI, 240, .inl m_pair_c)), ((m_a 20), .inl (cJ, 160, .inr (.inl m_lost_c))), ((m_a 21), .inl (cJ, 5, .inr (.inl m_strikes_c)))] s.heap := hP
  refine lv_aload_n hx hb dX12_on_0 rfl (lv_at hl 0 rfl) ?_
  refine lv_iconst (v := 0) hx hb dX12_on_1 (by decide) ?_
  refine va_put (D := g) (ci := 11) (v := .int 0) (ty := .int) (C := RX12) (T := TX12) (N := 56) hx hb hts iX12 tyX12 tyX12_ok nmX12 hown hK hP hD hS 0 rfl rfl 0 (by decide) (hts (.fieldLink RX12 107 "CardsAtYuleModel" "thrown" "I") (List.mem_cons_of_mem _ (List.mem_append_left _ (List.mem_of_getElem? (i := 0) rfl)))) (fun _ h9 => h9) rfl (by decide +kernel) rfl rfl (Nat.le_of_ble_eq_true rfl) dX12_on_2 (fun H locs hP hD hS => ?_)
  have hP : va_P g vwCl [(m, .inr (11, mG m_a 0 m_taped m_at m_token m_place m_value m_word m_bad m_badPlace m_fault m_faultPlace m_willing m_will m_forgot m_isDrawn m_x m_begin m_round m_roundCards m_fate m_any m_bothSend m_meanCards m_bestSum m_fitMany m_fitFirst m_fitSecond)), ((m_a 22), .inl (cZ, 3, .inl m_isKept_c)), ((m_a 16), .inl (cI, 5, .inl m_lines_c)), ((m_a 17), .inl (cI, 25, .inl m_has_c)), ((m_a 18), .inl (cI, 250, .inl m_person_c)), ((m_a 19), .inl (cI, 240, .inl m_pair_c)), ((m_a 20), .inl (cJ, 160, .inr (.inl m_lost_c))), ((m_a 21), .inl (cJ, 5, .inr (.inl m_strikes_c)))] H := hP
  have hD : va_D A [(m, .inr (11, mG m_a 0 m_taped m_at m_token m_place m_value m_word m_bad m_badPlace m_fault m_faultPlace m_willing m_will m_forgot m_isDrawn m_x m_begin m_round m_roundCards m_fate m_any m_bothSend m_meanCards m_bestSum m_fitMany m_fitFirst m_fitSecond)), ((m_a 22), .inl (cZ, 3, .inl m_isKept_c)), ((m_a 16), .inl (cI, 5, .inl m_lines_c)), ((m_a 17), .inl (cI, 25, .inl m_has_c)), ((m_a 18), .inl (cI, 250, .inl m_person_c)), ((m_a 19), .inl (cI, 240, .inl m_pair_c)), ((m_a 20), .inl (cJ, 160, .inr (.inl m_lost_c))), ((m_a 21), .inl (cJ, 5, .inr (.inl m_strikes_c)))] := hD
  refine lv_iload_n hx hb dX12_on_5 rfl (lv_at hl 1 rfl) ?_
  refine lv_i2l (v := p0.toInt64) hx hb dX12_on_6 rfl ?_
  refine lv_lconst (v := 0) hx hb dX12_on_7 (by decide) ?_
  refine lv_ldc2 (v := 2) hx hb hown (hts (.constantLong RX12 284 (2)) (List.mem_cons_of_mem _ (List.mem_append_left _ (List.mem_of_getElem? (i := 1) rfl)))) dX12_on_8 ?_
  refine ro_i (va_runS (As := [.long p0.toInt64, .long 0, .long 2]) (rest := []) ⟨hx, hb, hml, hown, hts⟩ (q_X12_inN l g cI cJ cB cZ cL p0.toInt64 p0.toInt 0 0 2 2 H.size (z_i2l rfl) rfl rfl) (va_cwS 3 hts (goodIn_app (g_3 (List.mem_cons_of_mem _ (List.mem_append_left _ (List.mem_of_getElem? (i := 2) rfl))) (List.mem_cons_of_mem _ (List.mem_append_left _ (List.mem_of_getElem? (i := 3) rfl))) (List.mem_cons_of_mem _ (List.mem_append_left _ (List.mem_of_getElem? (i := 4) rfl))) (by decide +kernel)) (goodIn_sub (fun _ h => List.mem_cons_of_mem _ (List.mem_append_right _ (List.mem_append_left _ h))) good_v_X12_inN)) rfl rfl rfl (by decide +kernel) ⟨Nat.le_of_ble_eq_true rfl, Nat.le_of_ble_eq_true rfl⟩) (ps_RO (wc := []) hK hP [] rfl) rfl rfl hl.1 rfl (lv_room (Nat.le_of_ble_eq_true rfl)) dX12_on_11 ⟨Nat.le_of_ble_eq_true rfl, Nat.le_of_ble_eq_true rfl⟩) hS hA hP (fun r11 u11 H locs hw11 hP hS => ?_)
  have hw11_0 := hw11
  rcases hw11_0 with ⟨er11, fc11_0, fc11_1⟩ | ⟨er11, fc11_0⟩
  rotate_left 1
  · subst er11
    have fc11_0 : ¬ (0 ≤ p0.toInt ∧ p0.toInt ≤ 2) := fc11_0
    refine lv_if_ne (tgt := 20) hx hb dX12_on_14 (by decide) (fun c => absurd c (by decide)) (fun _ => ?_)
    refine lv_bipush (v := (-2)) hx hb dX12_on_17 (by decide) ?_
    subst hQ
    have hP9 := hP.sub (ws' := [(m, .inr (11, mG m_a 0 m_taped m_at m_token m_place m_value m_word m_bad m_badPlace m_fault m_faultPlace m_willing m_will m_forgot m_isDrawn m_x m_begin m_round m_roundCards m_fate m_any m_bothSend m_meanCards m_bestSum m_fitMany m_fitFirst m_fitSecond)), ((m_a 22), .inl (cZ, 3, .inl m_isKept_c)), ((m_a 16), .inl (cI, 5, .inl m_lines_c)), ((m_a 17), .inl (cI, 25, .inl m_has_c)), ((m_a 18), .inl (cI, 250, .inl m_person_c)), ((m_a 19), .inl (cI, 240, .inl m_pair_c)), ((m_a 20), .inl (cJ, 160, .inr (.inl m_lost_c))), ((m_a 21), .inl (cJ, 5, .inr (.inl m_strikes_c)))]) [0, 1, 2, 3, 4, 5, 6, 7] rfl
    have hD9 := hD.sub (ws' := [(m, .inr (11, mG m_a 0 m_taped m_at m_token m_place m_value m_word m_bad m_badPlace m_fault m_faultPlace m_willing m_will m_forgot m_isDrawn m_x m_begin m_round m_roundCards m_fate m_any m_bothSend m_meanCards m_bestSum m_fitMany m_fitFirst m_fitSecond)), ((m_a 22), .inl (cZ, 3, .inl m_isKept_c)), ((m_a 16), .inl (cI, 5, .inl m_lines_c)), ((m_a 17), .inl (cI, 25, .inl m_has_c)), ((m_a 18), .inl (cI, 250, .inl m_person_c)), ((m_a 19), .inl (cI, 240, .inl m_pair_c)), ((m_a 20), .inl (cJ, 160, .inr (.inl m_lost_c))), ((m_a 21), .inl (cJ, 5, .inr (.inl m_strikes_c)))]) [0, 1, 2, 3, 4, 5, 6, 7] (by decide) rfl
    exact W.iret (v := (-2)) hx hb hr (fun t ht hW => ⟨⟨(-2), (0, m_lines_c, m_has_c, m_person_c, m_pair_c, m_lost_c, m_strikes_c), rfl, ⟨(show ir (0 : Int32).toInt 0 0 by decide), ha_m_has_c, ha_m_person_c, ha_m_pair_c, (by unfold onV; first | (rw [if_neg (by omega)]; done) | (rw [if_pos (by omega), if_pos (by omega)]; done) | (rw [if_pos (by omega), if_neg (by omega)]; done)), (show ir ((-2) : Int32).toInt (-6) 0 by decide)⟩, ⟨by rw [ht]; exact hP9, va_K.moved hW.alike hK, hD9⟩⟩, hS.F ht⟩) hS.2.2 dX12_on_19
  subst er11
  have fc11_0 : 0 ≤ p0.toInt := fc11_0
  have r11_0b : ir p0.toInt 0 2147483647 := ir_leb fc11_0 (ir_c 0) (rg_all p0) (by decide)
  have fc11_1 : p0.toInt ≤ 2 := fc11_1
  have r11_1a : ir p0.toInt 0 2 := ir_lea fc11_1 r11_0b (ir_c 2) (by decide)
  refine lv_if_ne (tgt := 20) hx hb dX12_on_14 (by decide) (fun _ => ?_) (fun c => absurd c (by decide))
  refine lv_aload_n hx hb dX12_on_20 rfl (lv_at hl 0 rfl) ?_
  refine va_get (D := g) (ci := 11) (v := .ref (m_a 22)) (C := RX12) (T := TX12) (N := 56) hx hb hts iX12 hown hK hP 0 rfl rfl 22 (by decide) (hts (.fieldLink RX12 49 "CardsAtYuleModel" "isKept" "[Z") (List.mem_cons_of_mem _ (List.mem_append_left _ (List.mem_of_getElem? (i := 5) rfl)))) (fun _ h9 => h9) rfl dX12_on_21 ?_
  refine lv_iload_n hx hb dX12_on_24 rfl (lv_at hl 1 rfl) ?_
  refine va_zald (D := g) hx hb hK hP 1 3 rfl rfl (vi_rg rfl r11_1a (by decide) (by decide)) dX12_on_25 ?_
  have r25 : ir (m_isKept_c p0.toNatClampNeg).toInt 0 1 := ha_m_isKept_c _ (vi_cl (vi_rg rfl r11_1a (by decide) (by decide)))
  refine lv_if_ne (tgt := 32) hx hb dX12_on_26 (by decide) (fun c26 => ?_) (fun c26 => ?_)
  rotate_left 1
  · have f26 := (show (m_isKept_c p0.toNatClampNeg).toInt = 0 from z_eq rfl rfl c26)
    have r26a : ir (m_isKept_c p0.toNatClampNeg).toInt 0 0 := ir_eqa f26 r25 (ir_c 0) (by decide) (by decide)
    refine lv_bipush (v := (-6)) hx hb dX12_on_29 (by decide) ?_
    subst hQ
    have hP9 := hP.sub (ws' := [(m, .inr (11, mG m_a 0 m_taped m_at m_token m_place m_value m_word m_bad m_badPlace m_fault m_faultPlace m_willing m_will m_forgot m_isDrawn m_x m_begin m_round m_roundCards m_fate m_any m_bothSend m_meanCards m_bestSum m_fitMany m_fitFirst m_fitSecond)), ((m_a 22), .inl (cZ, 3, .inl m_isKept_c)), ((m_a 16), .inl (cI, 5, .inl m_lines_c)), ((m_a 17), .inl (cI, 25, .inl m_has_c)), ((m_a 18), .inl (cI, 250, .inl m_person_c)), ((m_a 19), .inl (cI, 240, .inl m_pair_c)), ((m_a 20), .inl (cJ, 160, .inr (.inl m_lost_c))), ((m_a 21), .inl (cJ, 5, .inr (.inl m_strikes_c)))]) [0, 1, 2, 3, 4, 5, 6, 7] rfl
    have hD9 := hD.sub (ws' := [(m, .inr (11, mG m_a 0 m_taped m_at m_token m_place m_value m_word m_bad m_badPlace m_fault m_faultPlace m_willing m_will m_forgot m_isDrawn m_x m_begin m_round m_roundCards m_fate m_any m_bothSend m_meanCards m_bestSum m_fitMany m_fitFirst m_fitSecond)), ((m_a 22), .inl (cZ, 3, .inl m_isKept_c)), ((m_a 16), .inl (cI, 5, .inl m_lines_c)), ((m_a 17), .inl (cI, 25, .inl m_has_c)), ((m_a 18), .inl (cI, 250, .inl m_person_c)), ((m_a 19), .inl (cI, 240, .inl m_pair_c)), ((m_a 20), .inl (cJ, 160, .inr (.inl m_lost_c))), ((m_a 21), .inl (cJ, 5, .inr (.inl m_strikes_c)))]) [0, 1, 2, 3, 4, 5, 6, 7] (by decide) rfl
    exact W.iret (v := (-6)) hx hb hr (fun t ht hW => ⟨⟨(-6), (0, m_lines_c, m_has_c, m_person_c, m_pair_c, m_lost_c, m_strikes_c), rfl, ⟨(show ir (0 : Int32).toInt 0 0 by decide), ha_m_has_c, ha_m_person_c, ha_m_pair_c, (by unfold onV; first | (rw [if_neg (by omega)]; done) | (rw [if_pos (by omega), if_pos (by omega)]; done) | (rw [if_pos (by omega), if_neg (by omega)]; done)), (show ir ((-6) : Int32).toInt (-6) 0 by decide)⟩, ⟨by rw [ht]; exact hP9, va_K.moved hW.alike hK, hD9⟩⟩, hS.F ht⟩) hS.2.2 dX12_on_31
  have f26 := (show (m_isKept_c p0.toNatClampNeg).toInt ≠ 0 from z_ne rfl rfl c26)
  have r26a : ir (m_isKept_c p0.toNatClampNeg).toInt 1 1 := ir_nel f26 r25 (by decide) (by decide)
  refine lv_aload_n hx hb dX12_on_32 rfl (lv_at hl 0 rfl) ?_
  refine lv_iconst (v := 1) hx hb dX12_on_33 (by decide) ?_
  refine lv_iload_n hx hb dX12_on_34 rfl (lv_at hl 1 rfl) ?_
  refine lv_iadd hx hb dX12_on_35 ?_
  refine lv_topi (fun y35 e35 => ?_)
  have q35 : y35.toInt = 1 + p0.toInt := by rw [e35]; exact ad_z rfl rfl (ir_c 1) r11_1a (by decide) (by decide)
  have r35 : ir y35.toInt 1 3 := ad_r q35 (ir_c 1) r11_1a (by decide) (by decide)
  refine lv_iconst (v := 0) hx hb dX12_on_36 (by decide) ?_
  refine rw_v (wr := [((m_a 22), .inl (cZ, 3, .inl m_isKept_c))]) (va_runV (As := [.int y35, .int 0]) (rest := []) ⟨hx, hb, hml, hown, hts⟩ (q_X12_copyLand l g cI cJ cB cZ cL y35 0 m m_a 0 m_taped m_at m_token m_place m_value m_word m_bad m_badPlace m_fault m_faultPlace m_willing m_will m_forgot m_isDrawn m_x m_begin m_round m_roundCards m_fate m_any m_bothSend m_meanCards m_bestSum m_fitMany m_fitFirst m_fitSecond m_lines_c m_has_c m_person_c m_pair_c m_lost_c m_strikes_c H.size (ir_w r35 (by decide) (by decide)) (by decide) hv_m_taped hv_m_at hv_m_will hv_m_isDrawn ha_m_has_c ha_m_person_c ha_m_pair_c) (cwV 2 hts (goodIn_app (g_4 (List.mem_cons_of_mem _ (List.mem_append_left _ (List.mem_of_getElem? (i := 6) rfl))) (List.mem_cons_of_mem _ (List.mem_append_left _ (List.mem_of_getElem? (i := 7) rfl))) (List.mem_cons_of_mem _ (List.mem_append_left _ (List.mem_of_getElem? (i := 8) rfl))) (List.mem_cons_of_mem _ (List.mem_append_left _ (List.mem_of_getElem? (i := 4) rfl))) (by decide +kernel)) (goodIn_sub (fun _ h => List.mem_cons_of_mem _ (List.mem_append_right _ (List.mem_append_right _ (List.mem_append_left _ h)))) good_v_X12_copyLand)) rfl rfl rfl (by decide +kernel) ⟨Nat.le_of_ble_eq_true rfl, Nat.le_of_ble_eq_true rfl⟩) (pv_RW (q := (RX12, TX12, 56)) (ci := 11) (q0 := 0) (wc := [(m, .inr (11, mG m_a 0 m_taped m_at m_token m_place m_value m_word m_bad m_badPlace m_fault m_faultPlace m_willing m_will m_forgot m_isDrawn m_x m_begin m_round m_roundCards m_fate m_any m_bothSend m_meanCards m_bestSum m_fitMany m_fitFirst m_fitSecond)), ((m_a 16), .inl (cI, 5, .inl m_lines_c)), ((m_a 17), .inl (cI, 25, .inl m_has_c)), ((m_a 18), .inl (cI, 250, .inl m_person_c)), ((m_a 19), .inl (cI, 240, .inl m_pair_c)), ((m_a 20), .inl (cJ, 160, .inr (.inl m_lost_c))), ((m_a 21), .inl (cJ, 5, .inr (.inl m_strikes_c)))]) hK hP hD [0, 2, 3, 4, 5, 6, 7] (by decide) rfl rfl rfl) rfl rfl hl.1 rfl (lv_room (Nat.le_of_ble_eq_true rfl)) dX12_on_37 ⟨Nat.le_of_ble_eq_true rfl, Nat.le_of_ble_eq_true rfl⟩) hS hA hP hD [0, 2, 3, 4, 5, 6, 7] [1] rfl rfl (by decide) (by decide) (fun u37 H locs hw37 hP hD hS => ?_)
  obtain ⟨n_m_lines_c_37, n_m_has_c_37, n_m_person_c_37, n_m_pair_c_37, n_m_lost_c_37, n_m_strikes_c_37⟩ := u37
  have hP : va_P g vwCl [((m_a 22), .inl (cZ, 3, .inl m_isKept_c)), (m, .inr (11, mG m_a 0 m_taped m_at m_token m_place m_value m_word m_bad m_badPlace m_fault m_faultPlace m_willing m_will m_forgot m_isDrawn m_x m_begin m_round m_roundCards m_fate m_any m_bothSend m_meanCards m_bestSum m_fitMany m_fitFirst m_fitSecond)), ((m_a 16), .inl (cI, 5, .inl n_m_lines_c_37)), ((m_a 17), .inl (cI, 25, .inl n_m_has_c_37)), ((m_a 18), .inl (cI, 250, .inl n_m_person_c_37)), ((m_a 19), .inl (cI, 240, .inl n_m_pair_c_37)), ((m_a 20), .inl (cJ, 160, .inr (.inl n_m_lost_c_37))), ((m_a 21), .inl (cJ, 5, .inr (.inl n_m_strikes_c_37)))] H := hP
  have hD : va_D A [((m_a 22), .inl (cZ, 3, .inl m_isKept_c)), (m, .inr (11, mG m_a 0 m_taped m_at m_token m_place m_value m_word m_bad m_badPlace m_fault m_faultPlace m_willing m_will m_forgot m_isDrawn m_x m_begin m_round m_roundCards m_fate m_any m_bothSend m_meanCards m_bestSum m_fitMany m_fitFirst m_fitSecond)), ((m_a 16), .inl (cI, 5, .inl n_m_lines_c_37)), ((m_a 17), .inl (cI, 25, .inl n_m_has_c_37)), ((m_a 18), .inl (cI, 250, .inl n_m_person_c_37)), ((m_a 19), .inl (cI, 240, .inl n_m_pair_c_37)), ((m_a 20), .inl (cJ, 160, .inr (.inl n_m_lost_c_37))), ((m_a 21), .inl (cJ, 5, .inr (.inl n_m_strikes_c_37)))] := hD
  dsimp only at hw37
  obtain ⟨hw37_0, hw37_1, hw37_2⟩ := hw37
  refine lv_iconst (v := 0) hx hb dX12_on_40 (by decide) ?_
  subst hQ
  have hP9 := hP.sub (ws' := [(m, .inr (11, mG m_a 0 m_taped m_at m_token m_place m_value m_word m_bad m_badPlace m_fault m_faultPlace m_willing m_will m_forgot m_isDrawn m_x m_begin m_round m_roundCards m_fate m_any m_bothSend m_meanCards m_bestSum m_fitMany m_fitFirst m_fitSecond)), ((m_a 22), .inl (cZ, 3, .inl m_isKept_c)), ((m_a 16), .inl (cI, 5, .inl n_m_lines_c_37)), ((m_a 17), .inl (cI, 25, .inl n_m_has_c_37)), ((m_a 18), .inl (cI, 250, .inl n_m_person_c_37)), ((m_a 19), .inl (cI, 240, .inl n_m_pair_c_37)), ((m_a 20), .inl (cJ, 160, .inr (.inl n_m_lost_c_37))), ((m_a 21), .inl (cJ, 5, .inr (.inl n_m_strikes_c_37)))]) [1, 0, 2, 3, 4, 5, 6, 7] rfl
  have hD9 := hD.sub (ws' := [(m, .inr (11, mG m_a 0 m_taped m_at m_token m_place m_value m_word m_bad m_badPlace m_fault m_faultPlace m_willing m_will m_forgot m_isDrawn m_x m_begin m_round m_roundCards m_fate m_any m_bothSend m_meanCards m_bestSum m_fitMany m_fitFirst m_fitSecond)), ((m_a 22), .inl (cZ, 3, .inl m_isKept_c)), ((m_a 16), .inl (cI, 5, .inl n_m_lines_c_37)), ((m_a 17), .inl (cI, 25, .inl n_m_has_c_37)), ((m_a 18), .inl (cI, 250, .inl n_m_person_c_37)), ((m_a 19), .inl (cI, 240, .inl n_m_pair_c_37)), ((m_a 20), .inl (cJ, 160, .inr (.inl n_m_lost_c_37))), ((m_a 21), .inl (cJ, 5, .inr (.inl n_m_strikes_c_37)))]) [1, 0, 2, 3, 4, 5, 6, 7] (by decide) rfl
  exact W.iret (v := 0) hx hb hr (fun t ht hW => ⟨⟨0, (0, n_m_lines_c_37, n_m_has_c_37, n_m_person_c_37, n_m_pair_c_37, n_m_lost_c_37, n_m_strikes_c_37), rfl, ⟨(show ir (0 : Int32).toInt 0 0 by decide), hw37_0, hw37_1, hw37_2, (by unfold onV; first | (rw [if_neg (by omega)]; done) | (rw [if_pos (by omega), if_pos (by omega)]; done) | (rw [if_pos (by omega), if_neg (by omega)]; done)), (show ir (0 : Int32).toInt (-6) 0 by decide)⟩, ⟨by rw [ht]; exact hP9, va_K.moved hW.alike hK, hD9⟩⟩, hS.F ht⟩) hS.2.2 dX12_on_41
def v_X12_writeF : List Cond := .code yX12_write cX12_write 5 (some .int) :: (([.fieldLink RX12 107 "CardsAtYuleModel" "thrown" "I", .methodLink RX12 116 yX12_isSlot, .static yX12_isSlot, .initialized RX12, .fieldLink RX12 7 "CardsAtYuleModel" "width" "[I", .fieldLink RX12 13 "CardsAtYuleModel" "many" "[I", .methodLink RX12 112 yX12_in, .static yX12_in, .fieldLink RX12 16 "CardsAtYuleModel" "cells" "[J", .methodLink RX12 120 yX12_cut, .static yX12_cut] : List Cond) ++ (v_X12_isSlotN ++ (v_X12_inN ++ (v_X12_cut ++ (wsX120 ++ ([] : List Cond))))))
theorem good_v_X12_writeF : v_X12_writeF.all goodWord = true := ga_c (by decide +kernel) (ga_a (by decide +kernel) (ga_a good_v_X12_isSlotN (ga_a good_v_X12_inN (ga_a good_v_X12_cut (ga_a good_wsX120 rfl)))))
set_option maxHeartbeats 4000000 in
set_option maxRecDepth 100000 in
theorem q_X12_writeF (l : Launch) (g : va_G) (cI cJ cB cZ cL : ClassId) (p0 : Int32) (p1 : Int32) (p2 : Int64) (m : Nat) (m_a : Nat → Nat) (m_thrown : Int32) (m_taped : Int32) (m_at : Int32) (m_token : Int32) (m_place : Int32) (m_value : Int32) (m_word : Int64) (m_bad : Int32) (m_badPlace : Int32) (m_fault : Int32) (m_faultPlace : Int32) (m_willing : Int32) (m_will : Int32) (m_forgot : Int32) (m_isDrawn : Int32) (m_x : Int64) (m_begin : Int32) (m_round : Int32) (m_roundCards : Int32) (m_fate : Int32) (m_any : Int64) (m_bothSend : Int64) (m_meanCards : Int64) (m_bestSum : Int32) (m_fitMany : Int32) (m_fitFirst : Int64) (m_fitSecond : Int64) (m_width_c : Nat → Int32) (m_many_c : Nat → Int32) (m_cells_c : Nat → Int64) (sz : Nat) (hv_m_taped : ir m_taped.toInt 0 1600) (hv_m_at : ir m_at.toInt 0 1600) (hv_m_will : ir m_will.toInt 0 1) (hv_m_isDrawn : ir m_isDrawn.toInt 0 1) (ha_m_many_c : ar m_many_c 4 0 60) : Met l yX12_write v_X12_writeF ({ frames := 2, cells := 0, slots := 0, locals := 45 }) (va_Pc [.ref m, .int p0, .int p1, .long p2] (pRW g (tyT cI cJ cB cZ cL) [(m, .inr (11, mG m_a m_thrown m_taped m_at m_token m_place m_value m_word m_bad m_badPlace m_fault m_faultPlace m_willing m_will m_forgot m_isDrawn m_x m_begin m_round m_roundCards m_fate m_any m_bothSend m_meanCards m_bestSum m_fitMany m_fitFirst m_fitSecond)), ((m_a 1), .inl (cI, 4, .inl m_width_c)), ((m_a 2), .inl (cI, 4, .inl m_many_c)), ((m_a 3), .inl (cJ, 240, .inr (.inl m_cells_c)))] sz)) (va_Qi (fun (r : Int32) (u : Int32 × (Nat → Int64)) => match u with | (n_m_thrown, n_m_cells_c) => (ir n_m_thrown.toInt 0 0) ∧ (r = wrG p0.toInt p1.toInt (m_many_c p0.toNatClampNeg).toInt (m_width_c p0.toNatClampNeg).toInt) ∧ (ir r.toInt (-7) 0)) (fun (u : Int32 × (Nat → Int64)) (t : State) => bRW g (tyT cI cJ cB cZ cL) (va_A [(m, .inr (11, mG m_a m_thrown m_taped m_at m_token m_place m_value m_word m_bad m_badPlace m_fault m_faultPlace m_willing m_will m_forgot m_isDrawn m_x m_begin m_round m_roundCards m_fate m_any m_bothSend m_meanCards m_bestSum m_fitMany m_fitFirst m_fitSecond)), ((m_a 1), .inl (cI, 4, .inl m_width_c)), ((m_a 2), .inl (cI, 4, .inl m_many_c)), ((m_a 3), .inl (cJ, 240, .inr (.inl m_cells_c)))] sz) (match u with | (n_m_thrown, n_m_cells_c) => [(m, .inr (11, mG m_a n_m_thrown m_taped m_at m_token m_place m_value m_word m_bad m_badPlace m_fault m_faultPlace m_willing m_will m_forgot m_isDrawn m_x m_begin m_round m_roundCards m_fate m_any m_bothSend m_meanCards m_bestSum m_fitMany m_fitFirst m_fitSecond)), ((m_a 1), .inl (cI, 4, .inl m_width_c)), ((m_a 2), .inl (cI, 4, .inl m_many_c)), ((m_a 3), .inl (cJ, 240, .inr (.inl n_m_cells_c)))]) t) (va_A [(m, .inr (11, mG m_a m_thrown m_taped m_at m_token m_place m_value m_word m_bad m_badPlace m_fault m_faultPlace m_willing m_will m_forgot m_isDrawn m_x m_begin m_round m_roundCards m_fate m_any m_bothSend m_meanCards m_bestSum m_fitMany m_fitFirst m_fitSecond)), ((m_a 1), .inl (cI, 4, .inl m_width_c)), ((m_a 2), .inl (cI, 4, .inl m_many_c)), ((m_a 3), .inl (cJ, 240, .inr (.inl m_cells_c)))] sz)) 0 0 (va_A [(m, .inr (11, mG m_a m_thrown m_taped m_at m_token m_place m_value m_word m_bad m_badPlace m_fault m_faultPlace m_willing m_will m_forgot m_isDrawn m_x m_begin m_round m_roundCards m_fate m_any m_bothSend m_meanCards m_bestSum m_fitMany m_fitFirst m_fitSecond)), ((m_a 1), .inl (cI, 4, .inl m_width_c)), ((m_a 2), .inl (cI, 4, .inl m_many_c)), ((m_a 3), .inl (cJ, 240, .inr (.inl m_cells_c)))] sz) := by
  refine Met.ofW (cc := cX12_write) (maxL := 5) (ret := (some .int)) (by decide) rfl ?_
  intro p e s mth args below meth c s₁ B hml hv
  obtain ⟨rfl, hsz, hP, hK, hD0⟩ := hv
  have hx := B.exec
  have hb := B.bytes
  have hr := B.returns
  have hts := atoms_spec (ws := v_X12_writeF) B.pre
  have hown : s.vm.findClass RX12 = some mth.cls := findClass_of_methodNamed B.named
  have hlocks := B.notSynchronized
  clear B
  subst hsz
  have iX12 : ∀ w ∈ wsX120, w ∈ v_X12_writeF := (fun _ h => List.mem_cons_of_mem _ (List.mem_append_right _ (List.mem_append_right _ (List.mem_append_right _ (List.mem_append_right _ (List.mem_append_left _ h))))))
  have hD := hD0.self (sz := s.heap.size)
  generalize hAe : (va_A [(m, .inr (11, mG m_a m_thrown m_taped m_at m_token m_place m_value m_word m_bad m_badPlace m_fault m_faultPlace m_willing m_will m_forgot m_isDrawn m_x m_begin m_round m_roundCards m_fate m_any m_bothSend m_meanCards m_bestSum m_fitMany m_fitFirst m_fitSecond)), ((m_a 1), .inl (cI, 4, .inl m_width_c)), ((m_a 2), .inl (cI, 4, .inl m_many_c)), ((m_a 3), .inl (cJ, 240, .inr (.inl m_cells_c)))] s.heap.size) = A at hD ⊢
  have hA : ∀ q : Nat, s.heap.size ≤ q → A q := fun q h => by rw [← hAe]; exact Or.inr h
  have hS : va_S A s.heap s.heap [] := va_S.rf
  have hl := lv_entry ([.ref m, .int p0, .int p1, .long p2]) (n := 5) (Nat.le_of_ble_eq_true rfl)
  rw [lg_entry_eq]
  generalize (lg_sl ([.ref m, .int p0, .int p1, .long p2]) ++ List.replicate (5 - (lg_sl ([.ref m, .int p0, .int p1, .long p2])).length) Slot.unset).toArray = ls at hl ⊢
  generalize ([.ref m, .int p0, .int p1, .long p2] : List Value).toArray = av at hts ⊢
  generalize hQ : MQ below _ av s _ _ A = QQ
  have hl : lv_has ls 5 [(0, .ref m), (1, .int p0), (2, .int p1), (3, .long p2)] := hl
  have hP : va_P g vwCl [(m, .inr (11, mG m_a m_thrown m_taped m_at m_token m_place m_value m_word m_bad m_badPlace m_fault m_faultPlace m_willing m_will m_forgot m_isDrawn m_x m_begin m_round m_roundCards m_fate m_any m_bothSend m_meanCards m_bestSum m_fitMany m_fitFirst m_fitSecond)), ((m_a 1), .inl (cI, 4, .inl m_width_c)), ((m_a 2), .inl (cI, 4, .inl m_many_c)), ((m_a 3), .inl (cJ, 240, .inr (.inl m_cells_c)))] s.heap := hP
  refine lv_aload_n hx hb dX12_write_0 rfl (lv_at hl 0 rfl) ?_
  refine lv_iconst (v := 0) hx hb dX12_write_1 (by decide) ?_
  refine va_put (D := g) (ci := 11) (v := .int 0) (ty := .int) (C := RX12) (T := TX12) (N := 56) hx hb hts iX12 tyX12 tyX12_ok nmX12 hown hK hP hD hS 0 rfl rfl 0 (by decide) (hts (.fieldLink RX12 107 "CardsAtYuleModel" "thrown" "I") (List.mem_cons_of_mem _ (List.mem_append_left _ (List.mem_of_getElem? (i := 0) rfl)))) (fun _ h9 => h9) rfl (by decide +kernel) rfl rfl (Nat.le_of_ble_eq_true rfl) dX12_write_2 (fun H locs hP hD hS => ?_)
  have hP : va_P g vwCl [(m, .inr (11, mG m_a 0 m_taped m_at m_token m_place m_value m_word m_bad m_badPlace m_fault m_faultPlace m_willing m_will m_forgot m_isDrawn m_x m_begin m_round m_roundCards m_fate m_any m_bothSend m_meanCards m_bestSum m_fitMany m_fitFirst m_fitSecond)), ((m_a 1), .inl (cI, 4, .inl m_width_c)), ((m_a 2), .inl (cI, 4, .inl m_many_c)), ((m_a 3), .inl (cJ, 240, .inr (.inl m_cells_c)))] H := hP
  have hD : va_D A [(m, .inr (11, mG m_a 0 m_taped m_at m_token m_place m_value m_word m_bad m_badPlace m_fault m_faultPlace m_willing m_will m_forgot m_isDrawn m_x m_begin m_round m_roundCards m_fate m_any m_bothSend m_meanCards m_bestSum m_fitMany m_fitFirst m_fitSecond)), ((m_a 1), .inl (cI, 4, .inl m_width_c)), ((m_a 2), .inl (cI, 4, .inl m_many_c)), ((m_a 3), .inl (cJ, 240, .inr (.inl m_cells_c)))] := hD
  refine lv_iload_n hx hb dX12_write_5 rfl (lv_at hl 1 rfl) ?_
  refine ro_i (va_runS (As := [.int p0]) (rest := []) ⟨hx, hb, hml, hown, hts⟩ (q_X12_isSlotN l g cI cJ cB cZ cL p0 H.size ) (va_cwS 1 hts (goodIn_app (g_3 (List.mem_cons_of_mem _ (List.mem_append_left _ (List.mem_of_getElem? (i := 1) rfl))) (List.mem_cons_of_mem _ (List.mem_append_left _ (List.mem_of_getElem? (i := 2) rfl))) (List.mem_cons_of_mem _ (List.mem_append_left _ (List.mem_of_getElem? (i := 3) rfl))) (by decide +kernel)) (goodIn_sub (fun _ h => List.mem_cons_of_mem _ (List.mem_append_right _ (List.mem_append_left _ h))) good_v_X12_isSlotN)) rfl rfl rfl (by decide +kernel) ⟨Nat.le_of_ble_eq_true rfl, Nat.le_of_ble_eq_true rfl⟩) (ps_RO (wc := []) hK hP [] rfl) rfl rfl hl.1 rfl (lv_room (Nat.le_of_ble_eq_true rfl)) dX12_write_6 ⟨Nat.le_of_ble_eq_true rfl, Nat.le_of_ble_eq_true rfl⟩) hS hA hP (fun r6 u6 H locs hw6 hP hS => ?_)
  have hw6_0 := hw6
  rcases hw6_0 with ⟨er6, fc6_0, fc6_1⟩ | ⟨er6, fc6_0⟩
  rotate_left 1
  · subst er6
    have fc6_0 : ¬ (0 ≤ p0.toInt ∧ p0.toInt ≤ 3) := fc6_0
    refine lv_if_ne (tgt := 15) hx hb dX12_write_9 (by decide) (fun c => absurd c (by decide)) (fun _ => ?_)
    refine lv_bipush (v := (-2)) hx hb dX12_write_12 (by decide) ?_
    subst hQ
    have hP9 := hP.sub (ws' := [(m, .inr (11, mG m_a 0 m_taped m_at m_token m_place m_value m_word m_bad m_badPlace m_fault m_faultPlace m_willing m_will m_forgot m_isDrawn m_x m_begin m_round m_roundCards m_fate m_any m_bothSend m_meanCards m_bestSum m_fitMany m_fitFirst m_fitSecond)), ((m_a 1), .inl (cI, 4, .inl m_width_c)), ((m_a 2), .inl (cI, 4, .inl m_many_c)), ((m_a 3), .inl (cJ, 240, .inr (.inl m_cells_c)))]) [0, 1, 2, 3] rfl
    have hD9 := hD.sub (ws' := [(m, .inr (11, mG m_a 0 m_taped m_at m_token m_place m_value m_word m_bad m_badPlace m_fault m_faultPlace m_willing m_will m_forgot m_isDrawn m_x m_begin m_round m_roundCards m_fate m_any m_bothSend m_meanCards m_bestSum m_fitMany m_fitFirst m_fitSecond)), ((m_a 1), .inl (cI, 4, .inl m_width_c)), ((m_a 2), .inl (cI, 4, .inl m_many_c)), ((m_a 3), .inl (cJ, 240, .inr (.inl m_cells_c)))]) [0, 1, 2, 3] (by decide) rfl
    exact W.iret (v := (-2)) hx hb hr (fun t ht hW => ⟨⟨(-2), (0, m_cells_c), rfl, ⟨(show ir (0 : Int32).toInt 0 0 by decide), (by unfold wrG; first | (rw [if_neg (by omega)]; done) | (rw [if_pos (by omega), if_pos (by omega)]; done) | (rw [if_pos (by omega), if_neg (by omega), if_pos (by omega)]; done) | (rw [if_pos (by omega), if_neg (by omega), if_neg (by omega)]; done)), (show ir ((-2) : Int32).toInt (-7) 0 by decide)⟩, ⟨by rw [ht]; exact hP9, va_K.moved hW.alike hK, hD9⟩⟩, hS.F ht⟩) hS.2.2 dX12_write_14
  subst er6
  have fc6_0 : 0 ≤ p0.toInt := fc6_0
  have r6_0b : ir p0.toInt 0 2147483647 := ir_leb fc6_0 (ir_c 0) (rg_all p0) (by decide)
  have fc6_1 : p0.toInt ≤ 3 := fc6_1
  have r6_1a : ir p0.toInt 0 3 := ir_lea fc6_1 r6_0b (ir_c 3) (by decide)
  refine lv_if_ne (tgt := 15) hx hb dX12_write_9 (by decide) (fun _ => ?_) (fun c => absurd c (by decide))
  refine lv_aload_n hx hb dX12_write_15 rfl (lv_at hl 0 rfl) ?_
  refine va_get (D := g) (ci := 11) (v := .ref (m_a 1)) (C := RX12) (T := TX12) (N := 56) hx hb hts iX12 hown hK hP 0 rfl rfl 1 (by decide) (hts (.fieldLink RX12 7 "CardsAtYuleModel" "width" "[I") (List.mem_cons_of_mem _ (List.mem_append_left _ (List.mem_of_getElem? (i := 4) rfl)))) (fun _ h9 => h9) rfl dX12_write_16 ?_
  refine lv_iload_n hx hb dX12_write_19 rfl (lv_at hl 1 rfl) ?_
  refine va_iald (D := g) hx hb hK hP 1 0 rfl rfl (vi_rg rfl r6_1a (by decide) (by decide)) dX12_write_20 ?_
  refine lv_iconst (v := (-1)) hx hb dX12_write_21 (by decide) ?_
  refine lv_icmp_ne (tgt := 28) hx hb dX12_write_22 (by decide) (fun c22 => ?_) (fun c22 => ?_)
  rotate_left 1
  · have f22 := (show (m_width_c p0.toNatClampNeg).toInt = (-1) from z_eq rfl rfl c22)
    have r22a : ir (m_width_c p0.toNatClampNeg).toInt (-1) (-1) := ir_eqa f22 (rg_all (m_width_c p0.toNatClampNeg)) (ir_c (-1)) (by decide) (by decide)
    refine lv_bipush (v := (-6)) hx hb dX12_write_25 (by decide) ?_
    subst hQ
    have hP9 := hP.sub (ws' := [(m, .inr (11, mG m_a 0 m_taped m_at m_token m_place m_value m_word m_bad m_badPlace m_fault m_faultPlace m_willing m_will m_forgot m_isDrawn m_x m_begin m_round m_roundCards m_fate m_any m_bothSend m_meanCards m_bestSum m_fitMany m_fitFirst m_fitSecond)), ((m_a 1), .inl (cI, 4, .inl m_width_c)), ((m_a 2), .inl (cI, 4, .inl m_many_c)), ((m_a 3), .inl (cJ, 240, .inr (.inl m_cells_c)))]) [0, 1, 2, 3] rfl
    have hD9 := hD.sub (ws' := [(m, .inr (11, mG m_a 0 m_taped m_at m_token m_place m_value m_word m_bad m_badPlace m_fault m_faultPlace m_willing m_will m_forgot m_isDrawn m_x m_begin m_round m_roundCards m_fate m_any m_bothSend m_meanCards m_bestSum m_fitMany m_fitFirst m_fitSecond)), ((m_a 1), .inl (cI, 4, .inl m_width_c)), ((m_a 2), .inl (cI, 4, .inl m_many_c)), ((m_a 3), .inl (cJ, 240, .inr (.inl m_cells_c)))]) [0, 1, 2, 3] (by decide) rfl
    exact W.iret (v := (-6)) hx hb hr (fun t ht hW => ⟨⟨(-6), (0, m_cells_c), rfl, ⟨(show ir (0 : Int32).toInt 0 0 by decide), (by unfold wrG; first | (rw [if_neg (by omega)]; done) | (rw [if_pos (by omega), if_pos (by omega)]; done) | (rw [if_pos (by omega), if_neg (by omega), if_pos (by omega)]; done) | (rw [if_pos (by omega), if_neg (by omega), if_neg (by omega)]; done)), (show ir ((-6) : Int32).toInt (-7) 0 by decide)⟩, ⟨by rw [ht]; exact hP9, va_K.moved hW.alike hK, hD9⟩⟩, hS.F ht⟩) hS.2.2 dX12_write_27
  have f22 := (show (m_width_c p0.toNatClampNeg).toInt ≠ (-1) from z_ne rfl rfl c22)
  refine lv_iload_n hx hb dX12_write_28 rfl (lv_at hl 2 rfl) ?_
  refine lv_i2l (v := p1.toInt64) hx hb dX12_write_29 rfl ?_
  refine lv_lconst (v := 0) hx hb dX12_write_30 (by decide) ?_
  refine lv_aload_n hx hb dX12_write_31 rfl (lv_at hl 0 rfl) ?_
  refine va_get (D := g) (ci := 11) (v := .ref (m_a 2)) (C := RX12) (T := TX12) (N := 56) hx hb hts iX12 hown hK hP 0 rfl rfl 2 (by decide) (hts (.fieldLink RX12 13 "CardsAtYuleModel" "many" "[I") (List.mem_cons_of_mem _ (List.mem_append_left _ (List.mem_of_getElem? (i := 5) rfl)))) (fun _ h9 => h9) rfl dX12_write_32 ?_
  refine lv_iload_n hx hb dX12_write_35 rfl (lv_at hl 1 rfl) ?_
  refine va_iald (D := g) hx hb hK hP 2 0 rfl rfl (vi_rg rfl r6_1a (by decide) (by decide)) dX12_write_36 ?_
  have r36 : ir (m_many_c p0.toNatClampNeg).toInt 0 60 := ha_m_many_c _ (vi_cl (vi_rg rfl r6_1a (by decide) (by decide)))
  refine lv_iconst (v := 1) hx hb dX12_write_37 (by decide) ?_
  refine lv_isub hx hb dX12_write_38 ?_
  refine lv_topi (fun y38 e38 => ?_)
  have q38 : y38.toInt = (m_many_c p0.toNatClampNeg).toInt - 1 := by rw [e38]; exact su_z rfl rfl r36 (ir_c 1) (by decide) (by decide)
  have r38 : ir y38.toInt (-1) 59 := su_r q38 r36 (ir_c 1) (by decide) (by decide)
  refine lv_i2l (v := y38.toInt64) hx hb dX12_write_39 rfl ?_
  refine ro_i (va_runS (As := [.long p1.toInt64, .long 0, .long y38.toInt64]) (rest := []) ⟨hx, hb, hml, hown, hts⟩ (q_X12_inN l g cI cJ cB cZ cL p1.toInt64 p1.toInt 0 0 y38.toInt64 y38.toInt H.size (z_i2l rfl) rfl (z_i2l rfl)) (va_cwS 3 hts (goodIn_app (g_3 (List.mem_cons_of_mem _ (List.mem_append_left _ (List.mem_of_getElem? (i := 6) rfl))) (List.mem_cons_of_mem _ (List.mem_append_left _ (List.mem_of_getElem? (i := 7) rfl))) (List.mem_cons_of_mem _ (List.mem_append_left _ (List.mem_of_getElem? (i := 3) rfl))) (by decide +kernel)) (goodIn_sub (fun _ h => List.mem_cons_of_mem _ (List.mem_append_right _ (List.mem_append_right _ (List.mem_append_left _ h)))) good_v_X12_inN)) rfl rfl rfl (by decide +kernel) ⟨Nat.le_of_ble_eq_true rfl, Nat.le_of_ble_eq_true rfl⟩) (ps_RO (wc := []) hK hP [] rfl) rfl rfl hl.1 rfl (lv_room (Nat.le_of_ble_eq_true rfl)) dX12_write_40 ⟨Nat.le_of_ble_eq_true rfl, Nat.le_of_ble_eq_true rfl⟩) hS hA hP (fun r40 u40 H locs hw40 hP hS => ?_)
  have hw40_0 := hw40
  rcases hw40_0 with ⟨er40, fc40_0, fc40_1⟩ | ⟨er40, fc40_0⟩
  rotate_left 1
  · subst er40
    have fc40_0 : ¬ (0 ≤ p1.toInt ∧ p1.toInt ≤ y38.toInt) := fc40_0
    refine lv_if_ne (tgt := 49) hx hb dX12_write_43 (by decide) (fun c => absurd c (by decide)) (fun _ => ?_)
    refine lv_bipush (v := (-7)) hx hb dX12_write_46 (by decide) ?_
    subst hQ
    have hP9 := hP.sub (ws' := [(m, .inr (11, mG m_a 0 m_taped m_at m_token m_place m_value m_word m_bad m_badPlace m_fault m_faultPlace m_willing m_will m_forgot m_isDrawn m_x m_begin m_round m_roundCards m_fate m_any m_bothSend m_meanCards m_bestSum m_fitMany m_fitFirst m_fitSecond)), ((m_a 1), .inl (cI, 4, .inl m_width_c)), ((m_a 2), .inl (cI, 4, .inl m_many_c)), ((m_a 3), .inl (cJ, 240, .inr (.inl m_cells_c)))]) [0, 1, 2, 3] rfl
    have hD9 := hD.sub (ws' := [(m, .inr (11, mG m_a 0 m_taped m_at m_token m_place m_value m_word m_bad m_badPlace m_fault m_faultPlace m_willing m_will m_forgot m_isDrawn m_x m_begin m_round m_roundCards m_fate m_any m_bothSend m_meanCards m_bestSum m_fitMany m_fitFirst m_fitSecond)), ((m_a 1), .inl (cI, 4, .inl m_width_c)), ((m_a 2), .inl (cI, 4, .inl m_many_c)), ((m_a 3), .inl (cJ, 240, .inr (.inl m_cells_c)))]) [0, 1, 2, 3] (by decide) rfl
    exact W.iret (v := (-7)) hx hb hr (fun t ht hW => ⟨⟨(-7), (0, m_cells_c), rfl, ⟨(show ir (0 : Int32).toInt 0 0 by decide), (by unfold wrG; first | (rw [if_neg (by omega)]; done) | (rw [if_pos (by omega), if_pos (by omega)]; done) | (rw [if_pos (by omega), if_neg (by omega), if_pos (by omega)]; done) | (rw [if_pos (by omega), if_neg (by omega), if_neg (by omega)]; done)), (show ir ((-7) : Int32).toInt (-7) 0 by decide)⟩, ⟨by rw [ht]; exact hP9, va_K.moved hW.alike hK, hD9⟩⟩, hS.F ht⟩) hS.2.2 dX12_write_48
  subst er40
  have fc40_0 : 0 ≤ p1.toInt := fc40_0
  have r40_0b : ir p1.toInt 0 2147483647 := ir_leb fc40_0 (ir_c 0) (rg_all p1) (by decide)
  have fc40_1 : p1.toInt ≤ y38.toInt := fc40_1
  have r40_1a : ir p1.toInt 0 59 := ir_lea fc40_1 r40_0b r38 (by decide)
  have r40_1b : ir y38.toInt 0 59 := ir_leb fc40_1 r40_0b r38 (by decide)
  refine lv_if_ne (tgt := 49) hx hb dX12_write_43 (by decide) (fun _ => ?_) (fun c => absurd c (by decide))
  refine lv_aload_n hx hb dX12_write_49 rfl (lv_at hl 0 rfl) ?_
  refine va_get (D := g) (ci := 11) (v := .ref (m_a 3)) (C := RX12) (T := TX12) (N := 56) hx hb hts iX12 hown hK hP 0 rfl rfl 3 (by decide) (hts (.fieldLink RX12 16 "CardsAtYuleModel" "cells" "[J") (List.mem_cons_of_mem _ (List.mem_append_left _ (List.mem_of_getElem? (i := 8) rfl)))) (fun _ h9 => h9) rfl dX12_write_50 ?_
  refine lv_bipush (v := 60) hx hb dX12_write_53 (by decide) ?_
  refine lv_iload_n hx hb dX12_write_55 rfl (lv_at hl 1 rfl) ?_
  refine lv_imul hx hb dX12_write_56 ?_
  refine lv_topi (fun y56 e56 => ?_)
  have q56 : y56.toInt = 60 * p0.toInt := by rw [e56]; exact mu_z rfl rfl (ir_c 60) r6_1a (by decide) (by decide) (by decide)
  have r56 : ir y56.toInt 0 180 := mu_r q56 (ir_c 60) r6_1a (by decide) (by decide) (by decide) (by decide)
  refine lv_iload_n hx hb dX12_write_57 rfl (lv_at hl 2 rfl) ?_
  refine lv_iadd hx hb dX12_write_58 ?_
  refine lv_topi (fun y58 e58 => ?_)
  have q58 : y58.toInt = y56.toInt + p1.toInt := by rw [e58]; exact ad_z rfl rfl r56 r40_1a (by decide) (by decide)
  have r58 : ir y58.toInt 0 239 := ad_r q58 r56 r40_1a (by decide) (by decide)
  refine lv_lload_n hx hb dX12_write_59 rfl (lv_at hl 3 rfl) ?_
  refine lv_aload_n hx hb dX12_write_60 rfl (lv_at hl 0 rfl) ?_
  refine va_get (D := g) (ci := 11) (v := .ref (m_a 1)) (C := RX12) (T := TX12) (N := 56) hx hb hts iX12 hown hK hP 0 rfl rfl 1 (by decide) (hts (.fieldLink RX12 7 "CardsAtYuleModel" "width" "[I") (List.mem_cons_of_mem _ (List.mem_append_left _ (List.mem_of_getElem? (i := 4) rfl)))) (fun _ h9 => h9) rfl dX12_write_61 ?_
  refine lv_iload_n hx hb dX12_write_64 rfl (lv_at hl 1 rfl) ?_
  refine va_iald (D := g) hx hb hK hP 1 0 rfl rfl (vi_rg rfl r6_1a (by decide) (by decide)) dX12_write_65 ?_
  refine ro_l (va_runS (As := [.long p2, .int (m_width_c p0.toNatClampNeg)]) (rest := [.int y58, .ref (m_a 3)]) ⟨hx, hb, hml, hown, hts⟩ (q_X12_cut l g cI cJ cB cZ cL p2 (m_width_c p0.toNatClampNeg) H.size ) (va_cwS 2 hts (goodIn_app (g_3 (List.mem_cons_of_mem _ (List.mem_append_left _ (List.mem_of_getElem? (i := 9) rfl))) (List.mem_cons_of_mem _ (List.mem_append_left _ (List.mem_of_getElem? (i := 10) rfl))) (List.mem_cons_of_mem _ (List.mem_append_left _ (List.mem_of_getElem? (i := 3) rfl))) (by decide +kernel)) (goodIn_sub (fun _ h => List.mem_cons_of_mem _ (List.mem_append_right _ (List.mem_append_right _ (List.mem_append_right _ (List.mem_append_left _ h))))) good_v_X12_cut)) rfl rfl rfl (by decide +kernel) ⟨Nat.le_of_ble_eq_true rfl, Nat.le_of_ble_eq_true rfl⟩) (ps_RO (wc := []) hK hP [] rfl) rfl rfl hl.1 rfl (lv_room (Nat.le_of_ble_eq_true rfl)) dX12_write_66 ⟨Nat.le_of_ble_eq_true rfl, Nat.le_of_ble_eq_true rfl⟩) hS hA hP (fun r66 u66 H locs hw66 hP hS => ?_)
  refine va_last (D := g) hx hb hK hP hD hS 3 1 rfl rfl (vi_rg rfl r58 (by decide) (by decide)) dX12_write_69 (fun H locs hP hD hS => ?_)
  obtain ⟨g69, e69⟩ : ∃ z, z = vp_updL m_cells_c y58.toNatClampNeg r66 := ⟨_, rfl⟩
  have hP : va_P g vwCl [(m, .inr (11, mG m_a 0 m_taped m_at m_token m_place m_value m_word m_bad m_badPlace m_fault m_faultPlace m_willing m_will m_forgot m_isDrawn m_x m_begin m_round m_roundCards m_fate m_any m_bothSend m_meanCards m_bestSum m_fitMany m_fitFirst m_fitSecond)), ((m_a 1), .inl (cI, 4, .inl m_width_c)), ((m_a 2), .inl (cI, 4, .inl m_many_c)), ((m_a 3), .inl (cJ, 240, .inr (.inl (vp_updL m_cells_c y58.toNatClampNeg r66))))] H := hP
  have hD : va_D A [(m, .inr (11, mG m_a 0 m_taped m_at m_token m_place m_value m_word m_bad m_badPlace m_fault m_faultPlace m_willing m_will m_forgot m_isDrawn m_x m_begin m_round m_roundCards m_fate m_any m_bothSend m_meanCards m_bestSum m_fitMany m_fitFirst m_fitSecond)), ((m_a 1), .inl (cI, 4, .inl m_width_c)), ((m_a 2), .inl (cI, 4, .inl m_many_c)), ((m_a 3), .inl (cJ, 240, .inr (.inl (vp_updL m_cells_c y58.toNatClampNeg r66))))] := hD
  rw [← e69] at hP hD
  refine lv_iconst (v := 0) hx hb dX12_write_70 (by decide) ?_
  subst hQ
  have hP9 := hP.sub (ws' := [(m, .inr (11, mG m_a 0 m_taped m_at m_token m_place m_value m_word m_bad m_badPlace m_fault m_faultPlace m_willing m_will m_forgot m_isDrawn m_x m_begin m_round m_roundCards m_fate m_any m_bothSend m_meanCards m_bestSum m_fitMany m_fitFirst m_fitSecond)), ((m_a 1), .inl (cI, 4, .inl m_width_c)), ((m_a 2), .inl (cI, 4, .inl m_many_c)), ((m_a 3), .inl (cJ, 240, .inr (.inl g69)))]) [0, 1, 2, 3] rfl
  have hD9 := hD.sub (ws' := [(m, .inr (11, mG m_a 0 m_taped m_at m_token m_place m_value m_word m_bad m_badPlace m_fault m_faultPlace m_willing m_will m_forgot m_isDrawn m_x m_begin m_round m_roundCards m_fate m_any m_bothSend m_meanCards m_bestSum m_fitMany m_fitFirst m_fitSecond)), ((m_a 1), .inl (cI, 4, .inl m_width_c)), ((m_a 2), .inl (cI, 4, .inl m_many_c)), ((m_a 3), .inl (cJ, 240, .inr (.inl g69)))]) [0, 1, 2, 3] (by decide) rfl
  exact W.iret (v := 0) hx hb hr (fun t ht hW => ⟨⟨0, (0, g69), rfl, ⟨(show ir (0 : Int32).toInt 0 0 by decide), (by unfold wrG; first | (rw [if_neg (by omega)]; done) | (rw [if_pos (by omega), if_pos (by omega)]; done) | (rw [if_pos (by omega), if_neg (by omega), if_pos (by omega)]; done) | (rw [if_pos (by omega), if_neg (by omega), if_neg (by omega)]; done)), (show ir (0 : Int32).toInt (-7) 0 by decide)⟩, ⟨by rw [ht]; exact hP9, va_K.moved hW.alike hK, hD9⟩⟩, hS.F ht⟩) hS.2.2 dX12_write_71
def v_X12_pasteF : List Cond := .code yX12_paste cX12_paste 7 (some .int) :: (([.fieldLink RX12 107 "CardsAtYuleModel" "thrown" "I", .methodLink RX12 116 yX12_isSlot, .static yX12_isSlot, .initialized RX12, .fieldLink RX12 7 "CardsAtYuleModel" "width" "[I", .fieldLink RX12 13 "CardsAtYuleModel" "many" "[I", .fieldLink RX12 16 "CardsAtYuleModel" "cells" "[J", .fieldLink RX12 20 "CardsAtYuleModel" "moved" "[J"] : List Cond) ++ (v_X12_isSlotN ++ (wsX120 ++ ([] : List Cond))))
theorem good_v_X12_pasteF : v_X12_pasteF.all goodWord = true := ga_c (by decide +kernel) (ga_a (by decide +kernel) (ga_a good_v_X12_isSlotN (ga_a good_wsX120 rfl)))
set_option maxHeartbeats 4000000 in
set_option maxRecDepth 100000 in
theorem q_X12_pasteF (l : Launch) (g : va_G) (cI cJ cB cZ cL : ClassId) (p0 : Int32) (p1 : Int32) (p2 : Int32) (p3 : Int32) (p4 : Int32) (m : Nat) (m_a : Nat → Nat) (m_thrown : Int32) (m_taped : Int32) (m_at : Int32) (m_token : Int32) (m_place : Int32) (m_value : Int32) (m_word : Int64) (m_bad : Int32) (m_badPlace : Int32) (m_fault : Int32) (m_faultPlace : Int32) (m_willing : Int32) (m_will : Int32) (m_forgot : Int32) (m_isDrawn : Int32) (m_x : Int64) (m_begin : Int32) (m_round : Int32) (m_roundCards : Int32) (m_fate : Int32) (m_any : Int64) (m_bothSend : Int64) (m_meanCards : Int64) (m_bestSum : Int32) (m_fitMany : Int32) (m_fitFirst : Int64) (m_fitSecond : Int64) (m_width_c : Nat → Int32) (m_many_c : Nat → Int32) (m_cells_c : Nat → Int64) (m_moved_c : Nat → Int64) (sz : Nat) (hv_m_taped : ir m_taped.toInt 0 1600) (hv_m_at : ir m_at.toInt 0 1600) (hv_m_will : ir m_will.toInt 0 1) (hv_m_isDrawn : ir m_isDrawn.toInt 0 1) (ha_m_many_c : ar m_many_c 4 0 60) : Met l yX12_paste v_X12_pasteF ({ frames := 2, cells := 0, slots := 0, locals := 45 }) (va_Pc [.ref m, .int p0, .int p1, .int p2, .int p3, .int p4] (pRW g (tyT cI cJ cB cZ cL) [(m, .inr (11, mG m_a m_thrown m_taped m_at m_token m_place m_value m_word m_bad m_badPlace m_fault m_faultPlace m_willing m_will m_forgot m_isDrawn m_x m_begin m_round m_roundCards m_fate m_any m_bothSend m_meanCards m_bestSum m_fitMany m_fitFirst m_fitSecond)), ((m_a 1), .inl (cI, 4, .inl m_width_c)), ((m_a 2), .inl (cI, 4, .inl m_many_c)), ((m_a 3), .inl (cJ, 240, .inr (.inl m_cells_c))), ((m_a 4), .inl (cJ, 60, .inr (.inl m_moved_c)))] sz)) (va_Qi (fun (r : Int32) (u : Int32 × (Nat → Int64) × (Nat → Int64)) => match u with | (n_m_thrown, n_m_cells_c, n_m_moved_c) => (ir n_m_thrown.toInt 0 0) ∧ (r = paG p0.toInt p2.toInt p1.toInt p3.toInt p4.toInt (m_width_c p0.toNatClampNeg).toInt (m_width_c p2.toNatClampNeg).toInt (m_many_c p0.toNatClampNeg).toInt (m_many_c p2.toNatClampNeg).toInt (m_width_c p0.toNatClampNeg).toInt (m_width_c p2.toNatClampNeg).toInt) ∧ (ir r.toInt (-8) 0)) (fun (u : Int32 × (Nat → Int64) × (Nat → Int64)) (t : State) => bRW g (tyT cI cJ cB cZ cL) (va_A [(m, .inr (11, mG m_a m_thrown m_taped m_at m_token m_place m_value m_word m_bad m_badPlace m_fault m_faultPlace m_willing m_will m_forgot m_isDrawn m_x m_begin m_round m_roundCards m_fate m_any m_bothSend m_meanCards m_bestSum m_fitMany m_fitFirst m_fitSecond)), ((m_a 1), .inl (cI, 4, .inl m_width_c)), ((m_a 2), .inl (cI, 4, .inl m_many_c)), ((m_a 3), .inl (cJ, 240, .inr (.inl m_cells_c))), ((m_a 4), .inl (cJ, 60, .inr (.inl m_moved_c)))] sz) (match u with | (n_m_thrown, n_m_cells_c, n_m_moved_c) => [(m, .inr (11, mG m_a n_m_thrown m_taped m_at m_token m_place m_value m_word m_bad m_badPlace m_fault m_faultPlace m_willing m_will m_forgot m_isDrawn m_x m_begin m_round m_roundCards m_fate m_any m_bothSend m_meanCards m_bestSum m_fitMany m_fitFirst m_fitSecond)), ((m_a 1), .inl (cI, 4, .inl m_width_c)), ((m_a 2), .inl (cI, 4, .inl m_many_c)), ((m_a 3), .inl (cJ, 240, .inr (.inl n_m_cells_c))), ((m_a 4), .inl (cJ, 60, .inr (.inl n_m_moved_c)))]) t) (va_A [(m, .inr (11, mG m_a m_thrown m_taped m_at m_token m_place m_value m_word m_bad m_badPlace m_fault m_faultPlace m_willing m_will m_forgot m_isDrawn m_x m_begin m_round m_roundCards m_fate m_any m_bothSend m_meanCards m_bestSum m_fitMany m_fitFirst m_fitSecond)), ((m_a 1), .inl (cI, 4, .inl m_width_c)), ((m_a 2), .inl (cI, 4, .inl m_many_c)), ((m_a 3), .inl (cJ, 240, .inr (.inl m_cells_c))), ((m_a 4), .inl (cJ, 60, .inr (.inl m_moved_c)))] sz)) 0 0 (va_A [(m, .inr (11, mG m_a m_thrown m_taped m_at m_token m_place m_value m_word m_bad m_badPlace m_fault m_faultPlace m_willing m_will m_forgot m_isDrawn m_x m_begin m_round m_roundCards m_fate m_any m_bothSend m_meanCards m_bestSum m_fitMany m_fitFirst m_fitSecond)), ((m_a 1), .inl (cI, 4, .inl m_width_c)), ((m_a 2), .inl (cI, 4, .inl m_many_c)), ((m_a 3), .inl (cJ, 240, .inr (.inl m_cells_c))), ((m_a 4), .inl (cJ, 60, .inr (.inl m_moved_c)))] sz) := by
  refine Met.ofW (cc := cX12_paste) (maxL := 7) (ret := (some .int)) (by decide) rfl ?_
  intro p e s mth args below meth c s₁ B hml hv
  obtain ⟨rfl, hsz, hP, hK, hD0⟩ := hv
  have hx := B.exec
  have hb := B.bytes
  have hr := B.returns
  have hts := atoms_spec (ws := v_X12_pasteF) B.pre
  have hown : s.vm.findClass RX12 = some mth.cls := findClass_of_methodNamed B.named
  have hlocks := B.notSynchronized
  clear B
  subst hsz
  have iX12 : ∀ w ∈ wsX120, w ∈ v_X12_pasteF := (fun _ h => List.mem_cons_of_mem _ (List.mem_append_right _ (List.mem_append_right _ (List.mem_append_left _ h))))
  have hD := hD0.self (sz := s.heap.size)
  generalize hAe : (va_A [(m, .inr (11, mG m_a m_thrown m_taped m_at m_token m_place m_value m_word m_bad m_badPlace m_fault m_faultPlace m_willing m_will m_forgot m_isDrawn m_x m_begin m_round m_roundCards m_fate m_any m_bothSend m_meanCards m_bestSum m_fitMany m_fitFirst m_fitSecond)), ((m_a 1), .inl (cI, 4, .inl m_width_c)), ((m_a 2), .inl (cI, 4, .inl m_many_c)), ((m_a 3), .inl (cJ, 240, .inr (.inl m_cells_c))), ((m_a 4), .inl (cJ, 60, .inr (.inl m_moved_c)))] s.heap.size) = A at hD ⊢
  have hA : ∀ q : Nat, s.heap.size ≤ q → A q := fun q h => by rw [← hAe]; exact Or.inr h
  have hS : va_S A s.heap s.heap [] := va_S.rf
  have hl := lv_entry ([.ref m, .int p0, .int p1, .int p2, .int p3, .int p4]) (n := 7) (Nat.le_of_ble_eq_true rfl)
  rw [lg_entry_eq]
  generalize (lg_sl ([.ref m, .int p0, .int p1, .int p2, .int p3, .int p4]) ++ List.replicate (7 - (lg_sl ([.ref m, .int p0, .int p1, .int p2, .int p3, .int p4])).length) Slot.unset).toArray = ls at hl ⊢
  generalize ([.ref m, .int p0, .int p1, .int p2, .int p3, .int p4] : List Value).toArray = av at hts ⊢
  generalize hQ : MQ below _ av s _ _ A = QQ
  have hl : lv_has ls 7 [(0, .ref m), (1, .int p0), (2, .int p1), (3, .int p2), (4, .int p3), (5, .int p4)] := hl
  have hP : va_P g vwCl [(m, .inr (11, mG m_a m_thrown m_taped m_at m_token m_place m_value m_word m_bad m_badPlace m_fault m_faultPlace m_willing m_will m_forgot m_isDrawn m_x m_begin m_round m_roundCards m_fate m_any m_bothSend m_meanCards m_bestSum m_fitMany m_fitFirst m_fitSecond)), ((m_a 1), .inl (cI, 4, .inl m_width_c)), ((m_a 2), .inl (cI, 4, .inl m_many_c)), ((m_a 3), .inl (cJ, 240, .inr (.inl m_cells_c))), ((m_a 4), .inl (cJ, 60, .inr (.inl m_moved_c)))] s.heap := hP
  refine lv_aload_n hx hb dX12_paste_0 rfl (lv_at hl 0 rfl) ?_
  refine lv_iconst (v := 0) hx hb dX12_paste_1 (by decide) ?_
  refine va_put (D := g) (ci := 11) (v := .int 0) (ty := .int) (C := RX12) (T := TX12) (N := 56) hx hb hts iX12 tyX12 tyX12_ok nmX12 hown hK hP hD hS 0 rfl rfl 0 (by decide) (hts (.fieldLink RX12 107 "CardsAtYuleModel" "thrown" "I") (List.mem_cons_of_mem _ (List.mem_append_left _ (List.mem_of_getElem? (i := 0) rfl)))) (fun _ h9 => h9) rfl (by decide +kernel) rfl rfl (Nat.le_of_ble_eq_true rfl) dX12_paste_2 (fun H locs hP hD hS => ?_)
  have hP : va_P g vwCl [(m, .inr (11, mG m_a 0 m_taped m_at m_token m_place m_value m_word m_bad m_badPlace m_fault m_faultPlace m_willing m_will m_forgot m_isDrawn m_x m_begin m_round m_roundCards m_fate m_any m_bothSend m_meanCards m_bestSum m_fitMany m_fitFirst m_fitSecond)), ((m_a 1), .inl (cI, 4, .inl m_width_c)), ((m_a 2), .inl (cI, 4, .inl m_many_c)), ((m_a 3), .inl (cJ, 240, .inr (.inl m_cells_c))), ((m_a 4), .inl (cJ, 60, .inr (.inl m_moved_c)))] H := hP
  have hD : va_D A [(m, .inr (11, mG m_a 0 m_taped m_at m_token m_place m_value m_word m_bad m_badPlace m_fault m_faultPlace m_willing m_will m_forgot m_isDrawn m_x m_begin m_round m_roundCards m_fate m_any m_bothSend m_meanCards m_bestSum m_fitMany m_fitFirst m_fitSecond)), ((m_a 1), .inl (cI, 4, .inl m_width_c)), ((m_a 2), .inl (cI, 4, .inl m_many_c)), ((m_a 3), .inl (cJ, 240, .inr (.inl m_cells_c))), ((m_a 4), .inl (cJ, 60, .inr (.inl m_moved_c)))] := hD
  refine lv_iload_n hx hb dX12_paste_5 rfl (lv_at hl 1 rfl) ?_
  refine ro_i (va_runS (As := [.int p0]) (rest := []) ⟨hx, hb, hml, hown, hts⟩ (q_X12_isSlotN l g cI cJ cB cZ cL p0 H.size ) (va_cwS 1 hts (goodIn_app (g_3 (List.mem_cons_of_mem _ (List.mem_append_left _ (List.mem_of_getElem? (i := 1) rfl))) (List.mem_cons_of_mem _ (List.mem_append_left _ (List.mem_of_getElem? (i := 2) rfl))) (List.mem_cons_of_mem _ (List.mem_append_left _ (List.mem_of_getElem? (i := 3) rfl))) (by decide +kernel)) (goodIn_sub (fun _ h => List.mem_cons_of_mem _ (List.mem_append_right _ (List.mem_append_left _ h))) good_v_X12_isSlotN)) rfl rfl rfl (by decide +kernel) ⟨Nat.le_of_ble_eq_true rfl, Nat.le_of_ble_eq_true rfl⟩) (ps_RO (wc := []) hK hP [] rfl) rfl rfl hl.1 rfl (lv_room (Nat.le_of_ble_eq_true rfl)) dX12_paste_6 ⟨Nat.le_of_ble_eq_true rfl, Nat.le_of_ble_eq_true rfl⟩) hS hA hP (fun r6 u6 H locs hw6 hP hS => ?_)
  have hw6_0 := hw6
  rcases hw6_0 with ⟨er6, fc6_0, fc6_1⟩ | ⟨er6, fc6_0⟩
  rotate_left 1
  · subst er6
    have fc6_0 : ¬ (0 ≤ p0.toInt ∧ p0.toInt ≤ 3) := fc6_0
    refine lv_if_eq (tgt := 19) hx hb dX12_paste_9 (by decide) (fun _ => ?_) (fun c => absurd c (by decide))
    refine lv_bipush (v := (-2)) hx hb dX12_paste_19 (by decide) ?_
    subst hQ
    have hP9 := hP.sub (ws' := [(m, .inr (11, mG m_a 0 m_taped m_at m_token m_place m_value m_word m_bad m_badPlace m_fault m_faultPlace m_willing m_will m_forgot m_isDrawn m_x m_begin m_round m_roundCards m_fate m_any m_bothSend m_meanCards m_bestSum m_fitMany m_fitFirst m_fitSecond)), ((m_a 1), .inl (cI, 4, .inl m_width_c)), ((m_a 2), .inl (cI, 4, .inl m_many_c)), ((m_a 3), .inl (cJ, 240, .inr (.inl m_cells_c))), ((m_a 4), .inl (cJ, 60, .inr (.inl m_moved_c)))]) [0, 1, 2, 3, 4] rfl
    have hD9 := hD.sub (ws' := [(m, .inr (11, mG m_a 0 m_taped m_at m_token m_place m_value m_word m_bad m_badPlace m_fault m_faultPlace m_willing m_will m_forgot m_isDrawn m_x m_begin m_round m_roundCards m_fate m_any m_bothSend m_meanCards m_bestSum m_fitMany m_fitFirst m_fitSecond)), ((m_a 1), .inl (cI, 4, .inl m_width_c)), ((m_a 2), .inl (cI, 4, .inl m_many_c)), ((m_a 3), .inl (cJ, 240, .inr (.inl m_cells_c))), ((m_a 4), .inl (cJ, 60, .inr (.inl m_moved_c)))]) [0, 1, 2, 3, 4] (by decide) rfl
    exact W.iret (v := (-2)) hx hb hr (fun t ht hW => ⟨⟨(-2), (0, m_cells_c, m_moved_c), rfl, ⟨(show ir (0 : Int32).toInt 0 0 by decide), (by unfold paG; first | (rw [if_neg (by omega)]; done) | (rw [if_pos (by omega), if_pos (by omega)]; done) | (rw [if_pos (by omega), if_neg (by omega), if_neg (by omega)]; done) | (rw [if_pos (by omega), if_neg (by omega), if_pos (by omega), if_pos (by omega)]; done) | (rw [if_pos (by omega), if_neg (by omega), if_pos (by omega), if_neg (by omega)]; done)), (show ir ((-2) : Int32).toInt (-8) 0 by decide)⟩, ⟨by rw [ht]; exact hP9, va_K.moved hW.alike hK, hD9⟩⟩, hS.F ht⟩) hS.2.2 dX12_paste_21
  subst er6
  have fc6_0 : 0 ≤ p0.toInt := fc6_0
  have r6_0b : ir p0.toInt 0 2147483647 := ir_leb fc6_0 (ir_c 0) (rg_all p0) (by decide)
  have fc6_1 : p0.toInt ≤ 3 := fc6_1
  have r6_1a : ir p0.toInt 0 3 := ir_lea fc6_1 r6_0b (ir_c 3) (by decide)
  refine lv_if_eq (tgt := 19) hx hb dX12_paste_9 (by decide) (fun c => absurd c (by decide)) (fun _ => ?_)
  refine lv_iload_n hx hb dX12_paste_12 rfl (lv_at hl 3 rfl) ?_
  refine ro_i (va_runS (As := [.int p2]) (rest := []) ⟨hx, hb, hml, hown, hts⟩ (q_X12_isSlotN l g cI cJ cB cZ cL p2 H.size ) (va_cwS 1 hts (goodIn_app (g_3 (List.mem_cons_of_mem _ (List.mem_append_left _ (List.mem_of_getElem? (i := 1) rfl))) (List.mem_cons_of_mem _ (List.mem_append_left _ (List.mem_of_getElem? (i := 2) rfl))) (List.mem_cons_of_mem _ (List.mem_append_left _ (List.mem_of_getElem? (i := 3) rfl))) (by decide +kernel)) (goodIn_sub (fun _ h => List.mem_cons_of_mem _ (List.mem_append_right _ (List.mem_append_left _ h))) good_v_X12_isSlotN)) rfl rfl rfl (by decide +kernel) ⟨Nat.le_of_ble_eq_true rfl, Nat.le_of_ble_eq_true rfl⟩) (ps_RO (wc := []) hK hP [] rfl) rfl rfl hl.1 rfl (lv_room (Nat.le_of_ble_eq_true rfl)) dX12_paste_13 ⟨Nat.le_of_ble_eq_true rfl, Nat.le_of_ble_eq_true rfl⟩) hS hA hP (fun r13 u13 H locs hw13 hP hS => ?_)
  have hw13_0 := hw13
  rcases hw13_0 with ⟨er13, fc13_0, fc13_1⟩ | ⟨er13, fc13_0⟩
  rotate_left 1
  · subst er13
    have fc13_0 : ¬ (0 ≤ p2.toInt ∧ p2.toInt ≤ 3) := fc13_0
    refine lv_if_ne (tgt := 22) hx hb dX12_paste_16 (by decide) (fun c => absurd c (by decide)) (fun _ => ?_)
    refine lv_bipush (v := (-2)) hx hb dX12_paste_19 (by decide) ?_
    subst hQ
    have hP9 := hP.sub (ws' := [(m, .inr (11, mG m_a 0 m_taped m_at m_token m_place m_value m_word m_bad m_badPlace m_fault m_faultPlace m_willing m_will m_forgot m_isDrawn m_x m_begin m_round m_roundCards m_fate m_any m_bothSend m_meanCards m_bestSum m_fitMany m_fitFirst m_fitSecond)), ((m_a 1), .inl (cI, 4, .inl m_width_c)), ((m_a 2), .inl (cI, 4, .inl m_many_c)), ((m_a 3), .inl (cJ, 240, .inr (.inl m_cells_c))), ((m_a 4), .inl (cJ, 60, .inr (.inl m_moved_c)))]) [0, 1, 2, 3, 4] rfl
    have hD9 := hD.sub (ws' := [(m, .inr (11, mG m_a 0 m_taped m_at m_token m_place m_value m_word m_bad m_badPlace m_fault m_faultPlace m_willing m_will m_forgot m_isDrawn m_x m_begin m_round m_roundCards m_fate m_any m_bothSend m_meanCards m_bestSum m_fitMany m_fitFirst m_fitSecond)), ((m_a 1), .inl (cI, 4, .inl m_width_c)), ((m_a 2), .inl (cI, 4, .inl m_many_c)), ((m_a 3), .inl (cJ, 240, .inr (.inl m_cells_c))), ((m_a 4), .inl (cJ, 60, .inr (.inl m_moved_c)))]) [0, 1, 2, 3, 4] (by decide) rfl
    exact W.iret (v := (-2)) hx hb hr (fun t ht hW => ⟨⟨(-2), (0, m_cells_c, m_moved_c), rfl, ⟨(show ir (0 : Int32).toInt 0 0 by decide), (by unfold paG; first | (rw [if_neg (by omega)]; done) | (rw [if_pos (by omega), if_pos (by omega)]; done) | (rw [if_pos (by omega), if_neg (by omega), if_neg (by omega)]; done) | (rw [if_pos (by omega), if_neg (by omega), if_pos (by omega), if_pos (by omega)]; done) | (rw [if_pos (by omega), if_neg (by omega), if_pos (by omega), if_neg (by omega)]; done)), (show ir ((-2) : Int32).toInt (-8) 0 by decide)⟩, ⟨by rw [ht]; exact hP9, va_K.moved hW.alike hK, hD9⟩⟩, hS.F ht⟩) hS.2.2 dX12_paste_21
  subst er13
  have fc13_0 : 0 ≤ p2.toInt := fc13_0
  have r13_0b : ir p2.toInt 0 2147483647 := ir_leb fc13_0 (ir_c 0) (rg_all p2) (by decide)
  have fc13_1 : p2.toInt ≤ 3 := fc13_1
  have r13_1a : ir p2.toInt 0 3 := ir_lea fc13_1 r13_0b (ir_c 3) (by decide)
  refine lv_if_ne (tgt := 22) hx hb dX12_paste_16 (by decide) (fun _ => ?_) (fun c => absurd c (by decide))
  refine lv_aload_n hx hb dX12_paste_22 rfl (lv_at hl 0 rfl) ?_
  refine va_get (D := g) (ci := 11) (v := .ref (m_a 1)) (C := RX12) (T := TX12) (N := 56) hx hb hts iX12 hown hK hP 0 rfl rfl 1 (by decide) (hts (.fieldLink RX12 7 "CardsAtYuleModel" "width" "[I") (List.mem_cons_of_mem _ (List.mem_append_left _ (List.mem_of_getElem? (i := 4) rfl)))) (fun _ h9 => h9) rfl dX12_paste_23 ?_
  refine lv_iload_n hx hb dX12_paste_26 rfl (lv_at hl 1 rfl) ?_
  refine va_iald (D := g) hx hb hK hP 1 0 rfl rfl (vi_rg rfl r6_1a (by decide) (by decide)) dX12_paste_27 ?_
  refine lv_iconst (v := (-1)) hx hb dX12_paste_28 (by decide) ?_
  refine lv_icmp_eq (tgt := 42) hx hb dX12_paste_29 (by decide) (fun c29 => ?_) (fun c29 => ?_)
  · have f29 := (show (m_width_c p0.toNatClampNeg).toInt = (-1) from z_eq rfl rfl c29)
    have r29a : ir (m_width_c p0.toNatClampNeg).toInt (-1) (-1) := ir_eqa f29 (rg_all (m_width_c p0.toNatClampNeg)) (ir_c (-1)) (by decide) (by decide)
    refine lv_bipush (v := (-6)) hx hb dX12_paste_42 (by decide) ?_
    subst hQ
    have hP9 := hP.sub (ws' := [(m, .inr (11, mG m_a 0 m_taped m_at m_token m_place m_value m_word m_bad m_badPlace m_fault m_faultPlace m_willing m_will m_forgot m_isDrawn m_x m_begin m_round m_roundCards m_fate m_any m_bothSend m_meanCards m_bestSum m_fitMany m_fitFirst m_fitSecond)), ((m_a 1), .inl (cI, 4, .inl m_width_c)), ((m_a 2), .inl (cI, 4, .inl m_many_c)), ((m_a 3), .inl (cJ, 240, .inr (.inl m_cells_c))), ((m_a 4), .inl (cJ, 60, .inr (.inl m_moved_c)))]) [0, 1, 2, 3, 4] rfl
    have hD9 := hD.sub (ws' := [(m, .inr (11, mG m_a 0 m_taped m_at m_token m_place m_value m_word m_bad m_badPlace m_fault m_faultPlace m_willing m_will m_forgot m_isDrawn m_x m_begin m_round m_roundCards m_fate m_any m_bothSend m_meanCards m_bestSum m_fitMany m_fitFirst m_fitSecond)), ((m_a 1), .inl (cI, 4, .inl m_width_c)), ((m_a 2), .inl (cI, 4, .inl m_many_c)), ((m_a 3), .inl (cJ, 240, .inr (.inl m_cells_c))), ((m_a 4), .inl (cJ, 60, .inr (.inl m_moved_c)))]) [0, 1, 2, 3, 4] (by decide) rfl
    exact W.iret (v := (-6)) hx hb hr (fun t ht hW => ⟨⟨(-6), (0, m_cells_c, m_moved_c), rfl, ⟨(show ir (0 : Int32).toInt 0 0 by decide), (by unfold paG; first | (rw [if_neg (by omega)]; done) | (rw [if_pos (by omega), if_pos (by omega)]; done) | (rw [if_pos (by omega), if_neg (by omega), if_neg (by omega)]; done) | (rw [if_pos (by omega), if_neg (by omega), if_pos (by omega), if_pos (by omega)]; done) | (rw [if_pos (by omega), if_neg (by omega), if_pos (by omega), if_neg (by omega)]; done)), (show ir ((-6) : Int32).toInt (-8) 0 by decide)⟩, ⟨by rw [ht]; exact hP9, va_K.moved hW.alike hK, hD9⟩⟩, hS.F ht⟩) hS.2.2 dX12_paste_44
  have f29 := (show (m_width_c p0.toNatClampNeg).toInt ≠ (-1) from z_ne rfl rfl c29)
  refine lv_aload_n hx hb dX12_paste_32 rfl (lv_at hl 0 rfl) ?_
  refine va_get (D := g) (ci := 11) (v := .ref (m_a 1)) (C := RX12) (T := TX12) (N := 56) hx hb hts iX12 hown hK hP 0 rfl rfl 1 (by decide) (hts (.fieldLink RX12 7 "CardsAtYuleModel" "width" "[I") (List.mem_cons_of_mem _ (List.mem_append_left _ (List.mem_of_getElem? (i := 4) rfl)))) (fun _ h9 => h9) rfl dX12_paste_33 ?_
  refine lv_iload_n hx hb dX12_paste_36 rfl (lv_at hl 3 rfl) ?_
  refine va_iald (D := g) hx hb hK hP 1 0 rfl rfl (vi_rg rfl r13_1a (by decide) (by decide)) dX12_paste_37 ?_
  refine lv_iconst (v := (-1)) hx hb dX12_paste_38 (by decide) ?_
  refine lv_icmp_ne (tgt := 45) hx hb dX12_paste_39 (by decide) (fun c39 => ?_) (fun c39 => ?_)
  rotate_left 1
  · have f39 := (show (m_width_c p2.toNatClampNeg).toInt = (-1) from z_eq rfl rfl c39)
    have r39a : ir (m_width_c p2.toNatClampNeg).toInt (-1) (-1) := ir_eqa f39 (rg_all (m_width_c p2.toNatClampNeg)) (ir_c (-1)) (by decide) (by decide)
    refine lv_bipush (v := (-6)) hx hb dX12_paste_42 (by decide) ?_
    subst hQ
    have hP9 := hP.sub (ws' := [(m, .inr (11, mG m_a 0 m_taped m_at m_token m_place m_value m_word m_bad m_badPlace m_fault m_faultPlace m_willing m_will m_forgot m_isDrawn m_x m_begin m_round m_roundCards m_fate m_any m_bothSend m_meanCards m_bestSum m_fitMany m_fitFirst m_fitSecond)), ((m_a 1), .inl (cI, 4, .inl m_width_c)), ((m_a 2), .inl (cI, 4, .inl m_many_c)), ((m_a 3), .inl (cJ, 240, .inr (.inl m_cells_c))), ((m_a 4), .inl (cJ, 60, .inr (.inl m_moved_c)))]) [0, 1, 2, 3, 4] rfl
    have hD9 := hD.sub (ws' := [(m, .inr (11, mG m_a 0 m_taped m_at m_token m_place m_value m_word m_bad m_badPlace m_fault m_faultPlace m_willing m_will m_forgot m_isDrawn m_x m_begin m_round m_roundCards m_fate m_any m_bothSend m_meanCards m_bestSum m_fitMany m_fitFirst m_fitSecond)), ((m_a 1), .inl (cI, 4, .inl m_width_c)), ((m_a 2), .inl (cI, 4, .inl m_many_c)), ((m_a 3), .inl (cJ, 240, .inr (.inl m_cells_c))), ((m_a 4), .inl (cJ, 60, .inr (.inl m_moved_c)))]) [0, 1, 2, 3, 4] (by decide) rfl
    exact W.iret (v := (-6)) hx hb hr (fun t ht hW => ⟨⟨(-6), (0, m_cells_c, m_moved_c), rfl, ⟨(show ir (0 : Int32).toInt 0 0 by decide), (by unfold paG; first | (rw [if_neg (by omega)]; done) | (rw [if_pos (by omega), if_pos (by omega)]; done) | (rw [if_pos (by omega), if_neg (by omega), if_neg (by omega)]; done) | (rw [if_pos (by omega), if_neg (by omega), if_pos (by omega), if_pos (by omega)]; done) | (rw [if_pos (by omega), if_neg (by omega), if_pos (by omega), if_neg (by omega)]; done)), (show ir ((-6) : Int32).toInt (-8) 0 by decide)⟩, ⟨by rw [ht]; exact hP9, va_K.moved hW.alike hK, hD9⟩⟩, hS.F ht⟩) hS.2.2 dX12_paste_44
  have f39 := (show (m_width_c p2.toNatClampNeg).toInt ≠ (-1) from z_ne rfl rfl c39)
  refine lv_aload_n hx hb dX12_paste_45 rfl (lv_at hl 0 rfl) ?_
  refine va_get (D := g) (ci := 11) (v := .ref (m_a 1)) (C := RX12) (T := TX12) (N := 56) hx hb hts iX12 hown hK hP 0 rfl rfl 1 (by decide) (hts (.fieldLink RX12 7 "CardsAtYuleModel" "width" "[I") (List.mem_cons_of_mem _ (List.mem_append_left _ (List.mem_of_getElem? (i := 4) rfl)))) (fun _ h9 => h9) rfl dX12_paste_46 ?_
  refine lv_iload_n hx hb dX12_paste_49 rfl (lv_at hl 1 rfl) ?_
  refine va_iald (D := g) hx hb hK hP 1 0 rfl rfl (vi_rg rfl r6_1a (by decide) (by decide)) dX12_paste_50 ?_
  refine lv_aload_n hx hb dX12_paste_51 rfl (lv_at hl 0 rfl) ?_
  refine va_get (D := g) (ci := 11) (v := .ref (m_a 1)) (C := RX12) (T := TX12) (N := 56) hx hb hts iX12 hown hK hP 0 rfl rfl 1 (by decide) (hts (.fieldLink RX12 7 "CardsAtYuleModel" "width" "[I") (List.mem_cons_of_mem _ (List.mem_append_left _ (List.mem_of_getElem? (i := 4) rfl)))) (fun _ h9 => h9) rfl dX12_paste_52 ?_
  refine lv_iload_n hx hb dX12_paste_55 rfl (lv_at hl 3 rfl) ?_
  refine va_iald (D := g) hx hb hK hP 1 0 rfl rfl (vi_rg rfl r13_1a (by decide) (by decide)) dX12_paste_56 ?_
  refine lv_icmp_eq (tgt := 63) hx hb dX12_paste_57 (by decide) (fun c57 => ?_) (fun c57 => ?_)
  rotate_left 1
  · have f57 := (show (m_width_c p0.toNatClampNeg).toInt ≠ (m_width_c p2.toNatClampNeg).toInt from z_ne rfl rfl c57)
    refine lv_bipush (v := (-8)) hx hb dX12_paste_60 (by decide) ?_
    subst hQ
    have hP9 := hP.sub (ws' := [(m, .inr (11, mG m_a 0 m_taped m_at m_token m_place m_value m_word m_bad m_badPlace m_fault m_faultPlace m_willing m_will m_forgot m_isDrawn m_x m_begin m_round m_roundCards m_fate m_any m_bothSend m_meanCards m_bestSum m_fitMany m_fitFirst m_fitSecond)), ((m_a 1), .inl (cI, 4, .inl m_width_c)), ((m_a 2), .inl (cI, 4, .inl m_many_c)), ((m_a 3), .inl (cJ, 240, .inr (.inl m_cells_c))), ((m_a 4), .inl (cJ, 60, .inr (.inl m_moved_c)))]) [0, 1, 2, 3, 4] rfl
    have hD9 := hD.sub (ws' := [(m, .inr (11, mG m_a 0 m_taped m_at m_token m_place m_value m_word m_bad m_badPlace m_fault m_faultPlace m_willing m_will m_forgot m_isDrawn m_x m_begin m_round m_roundCards m_fate m_any m_bothSend m_meanCards m_bestSum m_fitMany m_fitFirst m_fitSecond)), ((m_a 1), .inl (cI, 4, .inl m_width_c)), ((m_a 2), .inl (cI, 4, .inl m_many_c)), ((m_a 3), .inl (cJ, 240, .inr (.inl m_cells_c))), ((m_a 4), .inl (cJ, 60, .inr (.inl m_moved_c)))]) [0, 1, 2, 3, 4] (by decide) rfl
    exact W.iret (v := (-8)) hx hb hr (fun t ht hW => ⟨⟨(-8), (0, m_cells_c, m_moved_c), rfl, ⟨(show ir (0 : Int32).toInt 0 0 by decide), (by unfold paG; first | (rw [if_neg (by omega)]; done) | (rw [if_pos (by omega), if_pos (by omega)]; done) | (rw [if_pos (by omega), if_neg (by omega), if_neg (by omega)]; done) | (rw [if_pos (by omega), if_neg (by omega), if_pos (by omega), if_pos (by omega)]; done) | (rw [if_pos (by omega), if_neg (by omega), if_pos (by omega), if_neg (by omega)]; done)), (show ir ((-8) : Int32).toInt (-8) 0 by decide)⟩, ⟨by rw [ht]; exact hP9, va_K.moved hW.alike hK, hD9⟩⟩, hS.F ht⟩) hS.2.2 dX12_paste_62
  have f57 := (show (m_width_c p0.toNatClampNeg).toInt = (m_width_c p2.toNatClampNeg).toInt from z_eq rfl rfl c57)
  refine lv_iload_n hx hb dX12_paste_63 rfl (lv_at hl 2 rfl) ?_
  refine lv_if_lt (tgt := 112) hx hb dX12_paste_64 (by decide) (fun c64 => ?_) (fun c64 => ?_)
  · have f64 := (show p1.toInt < 0 from z_lt rfl rfl c64)
    have r64a : ir p1.toInt (-2147483648) (-1) := ir_lta f64 (rg_all p1) (ir_c 0) (by decide)
    refine lv_bipush (v := (-7)) hx hb dX12_paste_112 (by decide) ?_
    subst hQ
    have hP9 := hP.sub (ws' := [(m, .inr (11, mG m_a 0 m_taped m_at m_token m_place m_value m_word m_bad m_badPlace m_fault m_faultPlace m_willing m_will m_forgot m_isDrawn m_x m_begin m_round m_roundCards m_fate m_any m_bothSend m_meanCards m_bestSum m_fitMany m_fitFirst m_fitSecond)), ((m_a 1), .inl (cI, 4, .inl m_width_c)), ((m_a 2), .inl (cI, 4, .inl m_many_c)), ((m_a 3), .inl (cJ, 240, .inr (.inl m_cells_c))), ((m_a 4), .inl (cJ, 60, .inr (.inl m_moved_c)))]) [0, 1, 2, 3, 4] rfl
    have hD9 := hD.sub (ws' := [(m, .inr (11, mG m_a 0 m_taped m_at m_token m_place m_value m_word m_bad m_badPlace m_fault m_faultPlace m_willing m_will m_forgot m_isDrawn m_x m_begin m_round m_roundCards m_fate m_any m_bothSend m_meanCards m_bestSum m_fitMany m_fitFirst m_fitSecond)), ((m_a 1), .inl (cI, 4, .inl m_width_c)), ((m_a 2), .inl (cI, 4, .inl m_many_c)), ((m_a 3), .inl (cJ, 240, .inr (.inl m_cells_c))), ((m_a 4), .inl (cJ, 60, .inr (.inl m_moved_c)))]) [0, 1, 2, 3, 4] (by decide) rfl
    exact W.iret (v := (-7)) hx hb hr (fun t ht hW => ⟨⟨(-7), (0, m_cells_c, m_moved_c), rfl, ⟨(show ir (0 : Int32).toInt 0 0 by decide), (by unfold paG; first | (rw [if_neg (by omega)]; done) | (rw [if_pos (by omega), if_pos (by omega)]; done) | (rw [if_pos (by omega), if_neg (by omega), if_neg (by omega)]; done) | (rw [if_pos (by omega), if_neg (by omega), if_pos (by omega), if_pos (by omega)]; done) | (rw [if_pos (by omega), if_neg (by omega), if_pos (by omega), if_neg (by omega)]; done)), (show ir ((-7) : Int32).toInt (-8) 0 by decide)⟩, ⟨by rw [ht]; exact hP9, va_K.moved hW.alike hK, hD9⟩⟩, hS.F ht⟩) hS.2.2 dX12_paste_114
  have f64 := (show 0 ≤ p1.toInt from z_nlt rfl rfl c64)
  have r64a : ir p1.toInt 0 2147483647 := ir_leb f64 (ir_c 0) (rg_all p1) (by decide)
  refine lv_iload hx hb dX12_paste_67 (lv_at hl 4 rfl) ?_
  refine lv_if_lt (tgt := 112) hx hb dX12_paste_69 (by decide) (fun c69 => ?_) (fun c69 => ?_)
  · have f69 := (show p3.toInt < 0 from z_lt rfl rfl c69)
    have r69a : ir p3.toInt (-2147483648) (-1) := ir_lta f69 (rg_all p3) (ir_c 0) (by decide)
    refine lv_bipush (v := (-7)) hx hb dX12_paste_112 (by decide) ?_
    subst hQ
    have hP9 := hP.sub (ws' := [(m, .inr (11, mG m_a 0 m_taped m_at m_token m_place m_value m_word m_bad m_badPlace m_fault m_faultPlace m_willing m_will m_forgot m_isDrawn m_x m_begin m_round m_roundCards m_fate m_any m_bothSend m_meanCards m_bestSum m_fitMany m_fitFirst m_fitSecond)), ((m_a 1), .inl (cI, 4, .inl m_width_c)), ((m_a 2), .inl (cI, 4, .inl m_many_c)), ((m_a 3), .inl (cJ, 240, .inr (.inl m_cells_c))), ((m_a 4), .inl (cJ, 60, .inr (.inl m_moved_c)))]) [0, 1, 2, 3, 4] rfl
    have hD9 := hD.sub (ws' := [(m, .inr (11, mG m_a 0 m_taped m_at m_token m_place m_value m_word m_bad m_badPlace m_fault m_faultPlace m_willing m_will m_forgot m_isDrawn m_x m_begin m_round m_roundCards m_fate m_any m_bothSend m_meanCards m_bestSum m_fitMany m_fitFirst m_fitSecond)), ((m_a 1), .inl (cI, 4, .inl m_width_c)), ((m_a 2), .inl (cI, 4, .inl m_many_c)), ((m_a 3), .inl (cJ, 240, .inr (.inl m_cells_c))), ((m_a 4), .inl (cJ, 60, .inr (.inl m_moved_c)))]) [0, 1, 2, 3, 4] (by decide) rfl
    exact W.iret (v := (-7)) hx hb hr (fun t ht hW => ⟨⟨(-7), (0, m_cells_c, m_moved_c), rfl, ⟨(show ir (0 : Int32).toInt 0 0 by decide), (by unfold paG; first | (rw [if_neg (by omega)]; done) | (rw [if_pos (by omega), if_pos (by omega)]; done) | (rw [if_pos (by omega), if_neg (by omega), if_neg (by omega)]; done) | (rw [if_pos (by omega), if_neg (by omega), if_pos (by omega), if_pos (by omega)]; done) | (rw [if_pos (by omega), if_neg (by omega), if_pos (by omega), if_neg (by omega)]; done)), (show ir ((-7) : Int32).toInt (-8) 0 by decide)⟩, ⟨by rw [ht]; exact hP9, va_K.moved hW.alike hK, hD9⟩⟩, hS.F ht⟩) hS.2.2 dX12_paste_114
  have f69 := (show 0 ≤ p3.toInt from z_nlt rfl rfl c69)
  have r69a : ir p3.toInt 0 2147483647 := ir_leb f69 (ir_c 0) (rg_all p3) (by decide)
  refine lv_iload hx hb dX12_paste_72 (lv_at hl 5 rfl) ?_
  refine lv_if_lt (tgt := 112) hx hb dX12_paste_74 (by decide) (fun c74 => ?_) (fun c74 => ?_)
  · have f74 := (show p4.toInt < 0 from z_lt rfl rfl c74)
    have r74a : ir p4.toInt (-2147483648) (-1) := ir_lta f74 (rg_all p4) (ir_c 0) (by decide)
    refine lv_bipush (v := (-7)) hx hb dX12_paste_112 (by decide) ?_
    subst hQ
    have hP9 := hP.sub (ws' := [(m, .inr (11, mG m_a 0 m_taped m_at m_token m_place m_value m_word m_bad m_badPlace m_fault m_faultPlace m_willing m_will m_forgot m_isDrawn m_x m_begin m_round m_roundCards m_fate m_any m_bothSend m_meanCards m_bestSum m_fitMany m_fitFirst m_fitSecond)), ((m_a 1), .inl (cI, 4, .inl m_width_c)), ((m_a 2), .inl (cI, 4, .inl m_many_c)), ((m_a 3), .inl (cJ, 240, .inr (.inl m_cells_c))), ((m_a 4), .inl (cJ, 60, .inr (.inl m_moved_c)))]) [0, 1, 2, 3, 4] rfl
    have hD9 := hD.sub (ws' := [(m, .inr (11, mG m_a 0 m_taped m_at m_token m_place m_value m_word m_bad m_badPlace m_fault m_faultPlace m_willing m_will m_forgot m_isDrawn m_x m_begin m_round m_roundCards m_fate m_any m_bothSend m_meanCards m_bestSum m_fitMany m_fitFirst m_fitSecond)), ((m_a 1), .inl (cI, 4, .inl m_width_c)), ((m_a 2), .inl (cI, 4, .inl m_many_c)), ((m_a 3), .inl (cJ, 240, .inr (.inl m_cells_c))), ((m_a 4), .inl (cJ, 60, .inr (.inl m_moved_c)))]) [0, 1, 2, 3, 4] (by decide) rfl
    exact W.iret (v := (-7)) hx hb hr (fun t ht hW => ⟨⟨(-7), (0, m_cells_c, m_moved_c), rfl, ⟨(show ir (0 : Int32).toInt 0 0 by decide), (by unfold paG; first | (rw [if_neg (by omega)]; done) | (rw [if_pos (by omega), if_pos (by omega)]; done) | (rw [if_pos (by omega), if_neg (by omega), if_neg (by omega)]; done) | (rw [if_pos (by omega), if_neg (by omega), if_pos (by omega), if_pos (by omega)]; done) | (rw [if_pos (by omega), if_neg (by omega), if_pos (by omega), if_neg (by omega)]; done)), (show ir ((-7) : Int32).toInt (-8) 0 by decide)⟩, ⟨by rw [ht]; exact hP9, va_K.moved hW.alike hK, hD9⟩⟩, hS.F ht⟩) hS.2.2 dX12_paste_114
  have f74 := (show 0 ≤ p4.toInt from z_nlt rfl rfl c74)
  have r74a : ir p4.toInt 0 2147483647 := ir_leb f74 (ir_c 0) (rg_all p4) (by decide)
  refine lv_iload_n hx hb dX12_paste_77 rfl (lv_at hl 2 rfl) ?_
  refine lv_i2l (v := p1.toInt64) hx hb dX12_paste_78 rfl ?_
  refine lv_iload hx hb dX12_paste_79 (lv_at hl 5 rfl) ?_
  refine lv_i2l (v := p4.toInt64) hx hb dX12_paste_81 rfl ?_
  refine lv_ladd hx hb dX12_paste_82 ?_
  refine lv_topl (fun y82 e82 => ?_)
  have q82 : y82.toInt = p1.toInt + p4.toInt := by rw [e82]; exact lad_z (z_i2l rfl) (z_i2l rfl) r64a r74a (by decide) (by decide)
  have r82 : ir y82.toInt 0 4294967294 := ad_r q82 r64a r74a (by decide) (by decide)
  refine lv_aload_n hx hb dX12_paste_83 rfl (lv_at hl 0 rfl) ?_
  refine va_get (D := g) (ci := 11) (v := .ref (m_a 2)) (C := RX12) (T := TX12) (N := 56) hx hb hts iX12 hown hK hP 0 rfl rfl 2 (by decide) (hts (.fieldLink RX12 13 "CardsAtYuleModel" "many" "[I") (List.mem_cons_of_mem _ (List.mem_append_left _ (List.mem_of_getElem? (i := 5) rfl)))) (fun _ h9 => h9) rfl dX12_paste_84 ?_
  refine lv_iload_n hx hb dX12_paste_87 rfl (lv_at hl 1 rfl) ?_
  refine va_iald (D := g) hx hb hK hP 2 0 rfl rfl (vi_rg rfl r6_1a (by decide) (by decide)) dX12_paste_88 ?_
  have r88 : ir (m_many_c p0.toNatClampNeg).toInt 0 60 := ha_m_many_c _ (vi_cl (vi_rg rfl r6_1a (by decide) (by decide)))
  refine lv_i2l (v := (m_many_c p0.toNatClampNeg).toInt64) hx hb dX12_paste_89 rfl ?_
  refine W.lcmp hx hb dX12_paste_90 ?_
  refine lv_if_gt (tgt := 112) hx hb dX12_paste_91 (by decide) (fun c91 => ?_) (fun c91 => ?_)
  · have f91 := (show (m_many_c p0.toNatClampNeg).toInt < y82.toInt from y_gt rfl (z_i2l rfl) c91)
    have r91a : ir y82.toInt 1 4294967294 := ir_ltb f91 r88 r82 (by decide)
    refine lv_bipush (v := (-7)) hx hb dX12_paste_112 (by decide) ?_
    subst hQ
    have hP9 := hP.sub (ws' := [(m, .inr (11, mG m_a 0 m_taped m_at m_token m_place m_value m_word m_bad m_badPlace m_fault m_faultPlace m_willing m_will m_forgot m_isDrawn m_x m_begin m_round m_roundCards m_fate m_any m_bothSend m_meanCards m_bestSum m_fitMany m_fitFirst m_fitSecond)), ((m_a 1), .inl (cI, 4, .inl m_width_c)), ((m_a 2), .inl (cI, 4, .inl m_many_c)), ((m_a 3), .inl (cJ, 240, .inr (.inl m_cells_c))), ((m_a 4), .inl (cJ, 60, .inr (.inl m_moved_c)))]) [0, 1, 2, 3, 4] rfl
    have hD9 := hD.sub (ws' := [(m, .inr (11, mG m_a 0 m_taped m_at m_token m_place m_value m_word m_bad m_badPlace m_fault m_faultPlace m_willing m_will m_forgot m_isDrawn m_x m_begin m_round m_roundCards m_fate m_any m_bothSend m_meanCards m_bestSum m_fitMany m_fitFirst m_fitSecond)), ((m_a 1), .inl (cI, 4, .inl m_width_c)), ((m_a 2), .inl (cI, 4, .inl m_many_c)), ((m_a 3), .inl (cJ, 240, .inr (.inl m_cells_c))), ((m_a 4), .inl (cJ, 60, .inr (.inl m_moved_c)))]) [0, 1, 2, 3, 4] (by decide) rfl
    exact W.iret (v := (-7)) hx hb hr (fun t ht hW => ⟨⟨(-7), (0, m_cells_c, m_moved_c), rfl, ⟨(show ir (0 : Int32).toInt 0 0 by decide), (by unfold paG; first | (rw [if_neg (by omega)]; done) | (rw [if_pos (by omega), if_pos (by omega)]; done) | (rw [if_pos (by omega), if_neg (by omega), if_neg (by omega)]; done) | (rw [if_pos (by omega), if_neg (by omega), if_pos (by omega), if_pos (by omega)]; done) | (rw [if_pos (by omega), if_neg (by omega), if_pos (by omega), if_neg (by omega)]; done)), (show ir ((-7) : Int32).toInt (-8) 0 by decide)⟩, ⟨by rw [ht]; exact hP9, va_K.moved hW.alike hK, hD9⟩⟩, hS.F ht⟩) hS.2.2 dX12_paste_114
  have f91 := (show y82.toInt ≤ (m_many_c p0.toNatClampNeg).toInt from y_ngt rfl (z_i2l rfl) c91)
  have r91a : ir y82.toInt 0 60 := ir_lea f91 r82 r88 (by decide)
  refine lv_iload hx hb dX12_paste_94 (lv_at hl 4 rfl) ?_
  refine lv_i2l (v := p3.toInt64) hx hb dX12_paste_96 rfl ?_
  refine lv_iload hx hb dX12_paste_97 (lv_at hl 5 rfl) ?_
  refine lv_i2l (v := p4.toInt64) hx hb dX12_paste_99 rfl ?_
  refine lv_ladd hx hb dX12_paste_100 ?_
  refine lv_topl (fun y100 e100 => ?_)
  have q100 : y100.toInt = p3.toInt + p4.toInt := by rw [e100]; exact lad_z (z_i2l rfl) (z_i2l rfl) r69a r74a (by decide) (by decide)
  have r100 : ir y100.toInt 0 4294967294 := ad_r q100 r69a r74a (by decide) (by decide)
  refine lv_aload_n hx hb dX12_paste_101 rfl (lv_at hl 0 rfl) ?_
  refine va_get (D := g) (ci := 11) (v := .ref (m_a 2)) (C := RX12) (T := TX12) (N := 56) hx hb hts iX12 hown hK hP 0 rfl rfl 2 (by decide) (hts (.fieldLink RX12 13 "CardsAtYuleModel" "many" "[I") (List.mem_cons_of_mem _ (List.mem_append_left _ (List.mem_of_getElem? (i := 5) rfl)))) (fun _ h9 => h9) rfl dX12_paste_102 ?_
  refine lv_iload_n hx hb dX12_paste_105 rfl (lv_at hl 3 rfl) ?_
  refine va_iald (D := g) hx hb hK hP 2 0 rfl rfl (vi_rg rfl r13_1a (by decide) (by decide)) dX12_paste_106 ?_
  have r106 : ir (m_many_c p2.toNatClampNeg).toInt 0 60 := ha_m_many_c _ (vi_cl (vi_rg rfl r13_1a (by decide) (by decide)))
  refine lv_i2l (v := (m_many_c p2.toNatClampNeg).toInt64) hx hb dX12_paste_107 rfl ?_
  refine W.lcmp hx hb dX12_paste_108 ?_
  refine lv_if_le (tgt := 115) hx hb dX12_paste_109 (by decide) (fun c109 => ?_) (fun c109 => ?_)
  rotate_left 1
  · have f109 := (show (m_many_c p2.toNatClampNeg).toInt < y100.toInt from y_nle rfl (z_i2l rfl) c109)
    have r109a : ir y100.toInt 1 4294967294 := ir_ltb f109 r106 r100 (by decide)
    refine lv_bipush (v := (-7)) hx hb dX12_paste_112 (by decide) ?_
    subst hQ
    have hP9 := hP.sub (ws' := [(m, .inr (11, mG m_a 0 m_taped m_at m_token m_place m_value m_word m_bad m_badPlace m_fault m_faultPlace m_willing m_will m_forgot m_isDrawn m_x m_begin m_round m_roundCards m_fate m_any m_bothSend m_meanCards m_bestSum m_fitMany m_fitFirst m_fitSecond)), ((m_a 1), .inl (cI, 4, .inl m_width_c)), ((m_a 2), .inl (cI, 4, .inl m_many_c)), ((m_a 3), .inl (cJ, 240, .inr (.inl m_cells_c))), ((m_a 4), .inl (cJ, 60, .inr (.inl m_moved_c)))]) [0, 1, 2, 3, 4] rfl
    have hD9 := hD.sub (ws' := [(m, .inr (11, mG m_a 0 m_taped m_at m_token m_place m_value m_word m_bad m_badPlace m_fault m_faultPlace m_willing m_will m_forgot m_isDrawn m_x m_begin m_round m_roundCards m_fate m_any m_bothSend m_meanCards m_bestSum m_fitMany m_fitFirst m_fitSecond)), ((m_a 1), .inl (cI, 4, .inl m_width_c)), ((m_a 2), .inl (cI, 4, .inl m_many_c)), ((m_a 3), .inl (cJ, 240, .inr (.inl m_cells_c))), ((m_a 4), .inl (cJ, 60, .inr (.inl m_moved_c)))]) [0, 1, 2, 3, 4] (by decide) rfl
    exact W.iret (v := (-7)) hx hb hr (fun t ht hW => ⟨⟨(-7), (0, m_cells_c, m_moved_c), rfl, ⟨(show ir (0 : Int32).toInt 0 0 by decide), (by unfold paG; first | (rw [if_neg (by omega)]; done) | (rw [if_pos (by omega), if_pos (by omega)]; done) | (rw [if_pos (by omega), if_neg (by omega), if_neg (by omega)]; done) | (rw [if_pos (by omega), if_neg (by omega), if_pos (by omega), if_pos (by omega)]; done) | (rw [if_pos (by omega), if_neg (by omega), if_pos (by omega), if_neg (by omega)]; done)), (show ir ((-7) : Int32).toInt (-8) 0 by decide)⟩, ⟨by rw [ht]; exact hP9, va_K.moved hW.alike hK, hD9⟩⟩, hS.F ht⟩) hS.2.2 dX12_paste_114
  have f109 := (show y100.toInt ≤ (m_many_c p2.toNatClampNeg).toInt from y_le rfl (z_i2l rfl) c109)
  have r109a : ir y100.toInt 0 60 := ir_lea f109 r100 r106 (by decide)
  have rw115_l2 : ir p1.toInt 0 60 := by omega
  have rw115_l4 : ir p3.toInt 0 60 := by omega
  have rw115_l5 : ir p4.toInt 0 60 := by omega
  refine lv_iconst (v := 0) hx hb dX12_paste_115 (by decide) ?_
  refine lv_istore (lv' := [(6, .int 0), (0, .ref m), (1, .int p0), (2, .int p1), (3, .int p2), (4, .int p3), (5, .int p4)]) hx hb dX12_paste_116 hl (by decide) rfl (fun ls hl => ?_)
  have J118 : ∀ (n118 : Nat) (j118_l6 : Int32) (j118_m_a4_c : Nat → Int64) (H : Heap) (locs : List Loc) (ls : Array Slot), (61 - j118_l6.toInt).toNat < n118 → (ir j118_l6.toInt 0 60) → va_P g vwCl [(m, .inr (11, mG m_a 0 m_taped m_at m_token m_place m_value m_word m_bad m_badPlace m_fault m_faultPlace m_willing m_will m_forgot m_isDrawn m_x m_begin m_round m_roundCards m_fate m_any m_bothSend m_meanCards m_bestSum m_fitMany m_fitFirst m_fitSecond)), ((m_a 1), .inl (cI, 4, .inl m_width_c)), ((m_a 2), .inl (cI, 4, .inl m_many_c)), ((m_a 3), .inl (cJ, 240, .inr (.inl m_cells_c))), ((m_a 4), .inl (cJ, 60, .inr (.inl j118_m_a4_c)))] H → va_D A [(m, .inr (11, mG m_a 0 m_taped m_at m_token m_place m_value m_word m_bad m_badPlace m_fault m_faultPlace m_willing m_will m_forgot m_isDrawn m_x m_begin m_round m_roundCards m_fate m_any m_bothSend m_meanCards m_bestSum m_fitMany m_fitFirst m_fitSecond)), ((m_a 1), .inl (cI, 4, .inl m_width_c)), ((m_a 2), .inl (cI, 4, .inl m_many_c)), ((m_a 3), .inl (cJ, 240, .inr (.inl m_cells_c))), ((m_a 4), .inl (cJ, 60, .inr (.inl j118_m_a4_c)))] → va_S A s.heap H locs → lv_has ls 7 [(0, .ref m), (1, .int p0), (2, .int p1), (3, .int p2), (4, .int p3), (5, .int p4), (6, .int j118_l6)] → W p l e (headSpec v_X12_pasteF ({ frames := 2, cells := 0, slots := 0, locals := 45 })).room s mth av below meth c H locs 0 0 QQ (F0 mth 118 ls []) := by
    intro n118
    induction n118 with
    | zero => exact fun j118_l6 j118_m_a4_c H locs ls hn => absurd hn (Nat.not_lt_zero _)
    | succ n118 ih118 =>
      intro j118_l6 j118_m_a4_c H locs ls hn118 hj118_l6 hP hD hS hl
      refine lv_iload hx hb dX12_paste_118 (lv_at hl 6 rfl) ?_
      refine lv_iload hx hb dX12_paste_120 (lv_at hl 5 rfl) ?_
      refine lv_icmp_ge (tgt := 152) hx hb dX12_paste_122 (by decide) (fun c122 => ?_) (fun c122 => ?_)
      rotate_left 1
      · have f122 := (show j118_l6.toInt < p4.toInt from z_nle rfl rfl c122)
        have r122a : ir j118_l6.toInt 0 59 := ir_lta f122 hj118_l6 rw115_l5 (by decide)
        have r122b : ir p4.toInt 1 60 := ir_ltb f122 hj118_l6 rw115_l5 (by decide)
        refine lv_aload_n hx hb dX12_paste_125 rfl (lv_at hl 0 rfl) ?_
        refine va_get (D := g) (ci := 11) (v := .ref (m_a 4)) (C := RX12) (T := TX12) (N := 56) hx hb hts iX12 hown hK hP 0 rfl rfl 4 (by decide) (hts (.fieldLink RX12 20 "CardsAtYuleModel" "moved" "[J") (List.mem_cons_of_mem _ (List.mem_append_left _ (List.mem_of_getElem? (i := 7) rfl)))) (fun _ h9 => h9) rfl dX12_paste_126 ?_
        refine lv_iload hx hb dX12_paste_129 (lv_at hl 6 rfl) ?_
        refine lv_aload_n hx hb dX12_paste_131 rfl (lv_at hl 0 rfl) ?_
        refine va_get (D := g) (ci := 11) (v := .ref (m_a 3)) (C := RX12) (T := TX12) (N := 56) hx hb hts iX12 hown hK hP 0 rfl rfl 3 (by decide) (hts (.fieldLink RX12 16 "CardsAtYuleModel" "cells" "[J") (List.mem_cons_of_mem _ (List.mem_append_left _ (List.mem_of_getElem? (i := 6) rfl)))) (fun _ h9 => h9) rfl dX12_paste_132 ?_
        refine lv_bipush (v := 60) hx hb dX12_paste_135 (by decide) ?_
        refine lv_iload_n hx hb dX12_paste_137 rfl (lv_at hl 1 rfl) ?_
        refine lv_imul hx hb dX12_paste_138 ?_
        refine lv_topi (fun y138 e138 => ?_)
        have q138 : y138.toInt = 60 * p0.toInt := by rw [e138]; exact mu_z rfl rfl (ir_c 60) r6_1a (by decide) (by decide) (by decide)
        have r138 : ir y138.toInt 0 180 := mu_r q138 (ir_c 60) r6_1a (by decide) (by decide) (by decide) (by decide)
        refine lv_iload_n hx hb dX12_paste_139 rfl (lv_at hl 2 rfl) ?_
        refine lv_iadd hx hb dX12_paste_140 ?_
        refine lv_topi (fun y140 e140 => ?_)
        have q140 : y140.toInt = y138.toInt + p1.toInt := by rw [e140]; exact ad_z rfl rfl r138 rw115_l2 (by decide) (by decide)
        have r140 : ir y140.toInt 0 240 := ad_r q140 r138 rw115_l2 (by decide) (by decide)
        refine lv_iload hx hb dX12_paste_141 (lv_at hl 6 rfl) ?_
        refine lv_iadd hx hb dX12_paste_143 ?_
        refine lv_topi (fun y143 e143 => ?_)
        have q143 : y143.toInt = y140.toInt + j118_l6.toInt := by rw [e143]; exact ad_z rfl rfl r140 r122a (by decide) (by decide)
        have r143 : ir y143.toInt 0 299 := ad_r q143 r140 r122a (by decide) (by decide)
        refine va_lald (D := g) hx hb hK hP 3 1 rfl rfl (vi_in rfl (by omega) (by omega)) dX12_paste_144 ?_
        refine va_last (D := g) hx hb hK hP hD hS 4 1 rfl rfl (vi_rg rfl r122a (by decide) (by decide)) dX12_paste_145 (fun H locs hP hD hS => ?_)
        obtain ⟨g145, e145⟩ : ∃ z, z = vp_updL j118_m_a4_c j118_l6.toNatClampNeg (m_cells_c y143.toNatClampNeg) := ⟨_, rfl⟩
        have hP : va_P g vwCl [(m, .inr (11, mG m_a 0 m_taped m_at m_token m_place m_value m_word m_bad m_badPlace m_fault m_faultPlace m_willing m_will m_forgot m_isDrawn m_x m_begin m_round m_roundCards m_fate m_any m_bothSend m_meanCards m_bestSum m_fitMany m_fitFirst m_fitSecond)), ((m_a 1), .inl (cI, 4, .inl m_width_c)), ((m_a 2), .inl (cI, 4, .inl m_many_c)), ((m_a 3), .inl (cJ, 240, .inr (.inl m_cells_c))), ((m_a 4), .inl (cJ, 60, .inr (.inl (vp_updL j118_m_a4_c j118_l6.toNatClampNeg (m_cells_c y143.toNatClampNeg)))))] H := hP
        have hD : va_D A [(m, .inr (11, mG m_a 0 m_taped m_at m_token m_place m_value m_word m_bad m_badPlace m_fault m_faultPlace m_willing m_will m_forgot m_isDrawn m_x m_begin m_round m_roundCards m_fate m_any m_bothSend m_meanCards m_bestSum m_fitMany m_fitFirst m_fitSecond)), ((m_a 1), .inl (cI, 4, .inl m_width_c)), ((m_a 2), .inl (cI, 4, .inl m_many_c)), ((m_a 3), .inl (cJ, 240, .inr (.inl m_cells_c))), ((m_a 4), .inl (cJ, 60, .inr (.inl (vp_updL j118_m_a4_c j118_l6.toNatClampNeg (m_cells_c y143.toNatClampNeg)))))] := hD
        rw [← e145] at hP hD
        obtain ⟨y146, e146⟩ : ∃ y : Int32, y = j118_l6 + 1 := ⟨_, rfl⟩
        have q146 : y146.toInt = j118_l6.toInt + 1 := by rw [e146]; exact ad_z rfl rfl r122a (ir_c 1) (by decide) (by decide)
        have r146 : ir y146.toInt 1 60 := ad_r q146 r122a (ir_c 1) (by decide) (by decide)
        refine lv_iinc (v := y146) (lv' := [(6, .int y146), (0, .ref m), (1, .int p0), (2, .int p1), (3, .int p2), (4, .int p3), (5, .int p4)]) hx hb dX12_paste_146 hl (k := 6) rfl e146.symm (by decide) rfl (fun ls hl => ?_)
        refine lv_goto (tgt := 118) hx hb dX12_paste_149 (by decide) ?_
        exact ih118 y146 g145 _ _ _ (by omega) (ir_w r146 (by decide) (by decide)) (hP.sub [0, 1, 2, 3, 4] rfl) (hD.sub [0, 1, 2, 3, 4] (by decide) rfl) hS (lv_sub hl [1, 2, 3, 4, 5, 6, 0] rfl)
      have f122 := (show p4.toInt ≤ j118_l6.toInt from z_le rfl rfl c122)
      refine lv_iconst (v := 0) hx hb dX12_paste_152 (by decide) ?_
      refine lv_istore (lv' := [(6, .int 0), (0, .ref m), (1, .int p0), (2, .int p1), (3, .int p2), (4, .int p3), (5, .int p4)]) hx hb dX12_paste_153 hl (by decide) rfl (fun ls hl => ?_)
      have J155 : ∀ (n155 : Nat) (j155_l6 : Int32) (j155_m_a3_c : Nat → Int64) (H : Heap) (locs : List Loc) (ls : Array Slot), (61 - j155_l6.toInt).toNat < n155 → (ir j155_l6.toInt 0 60) → va_P g vwCl [(m, .inr (11, mG m_a 0 m_taped m_at m_token m_place m_value m_word m_bad m_badPlace m_fault m_faultPlace m_willing m_will m_forgot m_isDrawn m_x m_begin m_round m_roundCards m_fate m_any m_bothSend m_meanCards m_bestSum m_fitMany m_fitFirst m_fitSecond)), ((m_a 1), .inl (cI, 4, .inl m_width_c)), ((m_a 2), .inl (cI, 4, .inl m_many_c)), ((m_a 3), .inl (cJ, 240, .inr (.inl j155_m_a3_c))), ((m_a 4), .inl (cJ, 60, .inr (.inl j118_m_a4_c)))] H → va_D A [(m, .inr (11, mG m_a 0 m_taped m_at m_token m_place m_value m_word m_bad m_badPlace m_fault m_faultPlace m_willing m_will m_forgot m_isDrawn m_x m_begin m_round m_roundCards m_fate m_any m_bothSend m_meanCards m_bestSum m_fitMany m_fitFirst m_fitSecond)), ((m_a 1), .inl (cI, 4, .inl m_width_c)), ((m_a 2), .inl (cI, 4, .inl m_many_c)), ((m_a 3), .inl (cJ, 240, .inr (.inl j155_m_a3_c))), ((m_a 4), .inl (cJ, 60, .inr (.inl j118_m_a4_c)))] → va_S A s.heap H locs → lv_has ls 7 [(0, .ref m), (3, .int p2), (4, .int p3), (5, .int p4), (6, .int j155_l6)] → W p l e (headSpec v_X12_pasteF ({ frames := 2, cells := 0, slots := 0, locals := 45 })).room s mth av below meth c H locs 0 0 QQ (F0 mth 155 ls []) := by
        intro n155
        induction n155 with
        | zero => exact fun j155_l6 j155_m_a3_c H locs ls hn => absurd hn (Nat.not_lt_zero _)
        | succ n155 ih155 =>
          intro j155_l6 j155_m_a3_c H locs ls hn155 hj155_l6 hP hD hS hl
          refine lv_iload hx hb dX12_paste_155 (lv_at hl 4 rfl) ?_
          refine lv_iload hx hb dX12_paste_157 (lv_at hl 3 rfl) ?_
          refine lv_icmp_ge (tgt := 190) hx hb dX12_paste_159 (by decide) (fun c159 => ?_) (fun c159 => ?_)
          · have f159 := (show p4.toInt ≤ j155_l6.toInt from z_le rfl rfl c159)
            refine lv_iconst (v := 0) hx hb dX12_paste_190 (by decide) ?_
            subst hQ
            have hP9 := hP.sub (ws' := [(m, .inr (11, mG m_a 0 m_taped m_at m_token m_place m_value m_word m_bad m_badPlace m_fault m_faultPlace m_willing m_will m_forgot m_isDrawn m_x m_begin m_round m_roundCards m_fate m_any m_bothSend m_meanCards m_bestSum m_fitMany m_fitFirst m_fitSecond)), ((m_a 1), .inl (cI, 4, .inl m_width_c)), ((m_a 2), .inl (cI, 4, .inl m_many_c)), ((m_a 3), .inl (cJ, 240, .inr (.inl j155_m_a3_c))), ((m_a 4), .inl (cJ, 60, .inr (.inl j118_m_a4_c)))]) [0, 1, 2, 3, 4] rfl
            have hD9 := hD.sub (ws' := [(m, .inr (11, mG m_a 0 m_taped m_at m_token m_place m_value m_word m_bad m_badPlace m_fault m_faultPlace m_willing m_will m_forgot m_isDrawn m_x m_begin m_round m_roundCards m_fate m_any m_bothSend m_meanCards m_bestSum m_fitMany m_fitFirst m_fitSecond)), ((m_a 1), .inl (cI, 4, .inl m_width_c)), ((m_a 2), .inl (cI, 4, .inl m_many_c)), ((m_a 3), .inl (cJ, 240, .inr (.inl j155_m_a3_c))), ((m_a 4), .inl (cJ, 60, .inr (.inl j118_m_a4_c)))]) [0, 1, 2, 3, 4] (by decide) rfl
            exact W.iret (v := 0) hx hb hr (fun t ht hW => ⟨⟨0, (0, j155_m_a3_c, j118_m_a4_c), rfl, ⟨(show ir (0 : Int32).toInt 0 0 by decide), (by unfold paG; first | (rw [if_neg (by omega)]; done) | (rw [if_pos (by omega), if_pos (by omega)]; done) | (rw [if_pos (by omega), if_neg (by omega), if_neg (by omega)]; done) | (rw [if_pos (by omega), if_neg (by omega), if_pos (by omega), if_pos (by omega)]; done) | (rw [if_pos (by omega), if_neg (by omega), if_pos (by omega), if_neg (by omega)]; done)), (show ir (0 : Int32).toInt (-8) 0 by decide)⟩, ⟨by rw [ht]; exact hP9, va_K.moved hW.alike hK, hD9⟩⟩, hS.F ht⟩) hS.2.2 dX12_paste_191
          have f159 := (show j155_l6.toInt < p4.toInt from z_nle rfl rfl c159)
          have r159a : ir j155_l6.toInt 0 59 := ir_lta f159 hj155_l6 rw115_l5 (by decide)
          have r159b : ir p4.toInt 1 60 := ir_ltb f159 hj155_l6 rw115_l5 (by decide)
          refine lv_aload_n hx hb dX12_paste_162 rfl (lv_at hl 0 rfl) ?_
          refine va_get (D := g) (ci := 11) (v := .ref (m_a 3)) (C := RX12) (T := TX12) (N := 56) hx hb hts iX12 hown hK hP 0 rfl rfl 3 (by decide) (hts (.fieldLink RX12 16 "CardsAtYuleModel" "cells" "[J") (List.mem_cons_of_mem _ (List.mem_append_left _ (List.mem_of_getElem? (i := 6) rfl)))) (fun _ h9 => h9) rfl dX12_paste_163 ?_
          refine lv_bipush (v := 60) hx hb dX12_paste_166 (by decide) ?_
          refine lv_iload_n hx hb dX12_paste_168 rfl (lv_at hl 1 rfl) ?_
          refine lv_imul hx hb dX12_paste_169 ?_
          refine lv_topi (fun y169 e169 => ?_)
          have q169 : y169.toInt = 60 * p2.toInt := by rw [e169]; exact mu_z rfl rfl (ir_c 60) r13_1a (by decide) (by decide) (by decide)
          have r169 : ir y169.toInt 0 180 := mu_r q169 (ir_c 60) r13_1a (by decide) (by decide) (by decide) (by decide)
          refine lv_iload hx hb dX12_paste_170 (lv_at hl 2 rfl) ?_
          refine lv_iadd hx hb dX12_paste_172 ?_
          refine lv_topi (fun y172 e172 => ?_)
          have q172 : y172.toInt = y169.toInt + p3.toInt := by rw [e172]; exact ad_z rfl rfl r169 rw115_l4 (by decide) (by decide)
          have r172 : ir y172.toInt 0 240 := ad_r q172 r169 rw115_l4 (by decide) (by decide)
          refine lv_iload hx hb dX12_paste_173 (lv_at hl 4 rfl) ?_
          refine lv_iadd hx hb dX12_paste_175 ?_
          refine lv_topi (fun y175 e175 => ?_)
          have q175 : y175.toInt = y172.toInt + j155_l6.toInt := by rw [e175]; exact ad_z rfl rfl r172 r159a (by decide) (by decide)
          have r175 : ir y175.toInt 0 299 := ad_r q175 r172 r159a (by decide) (by decide)
          refine lv_aload_n hx hb dX12_paste_176 rfl (lv_at hl 0 rfl) ?_
          refine va_get (D := g) (ci := 11) (v := .ref (m_a 4)) (C := RX12) (T := TX12) (N := 56) hx hb hts iX12 hown hK hP 0 rfl rfl 4 (by decide) (hts (.fieldLink RX12 20 "CardsAtYuleModel" "moved" "[J") (List.mem_cons_of_mem _ (List.mem_append_left _ (List.mem_of_getElem? (i := 7) rfl)))) (fun _ h9 => h9) rfl dX12_paste_177 ?_
          refine lv_iload hx hb dX12_paste_180 (lv_at hl 4 rfl) ?_
          refine va_lald (D := g) hx hb hK hP 4 1 rfl rfl (vi_rg rfl r159a (by decide) (by decide)) dX12_paste_182 ?_
          refine va_last (D := g) hx hb hK hP hD hS 3 1 rfl rfl (vi_in rfl (by omega) (by omega)) dX12_paste_183 (fun H locs hP hD hS => ?_)
          obtain ⟨g183, e183⟩ : ∃ z, z = vp_updL j155_m_a3_c y175.toNatClampNeg (j118_m_a4_c j155_l6.toNatClampNeg) := ⟨_, rfl⟩
          have hP : va_P g vwCl [(m, .inr (11, mG m_a 0 m_taped m_at m_token m_place m_value m_word m_bad m_badPlace m_fault m_faultPlace m_willing m_will m_forgot m_isDrawn m_x m_begin m_round m_roundCards m_fate m_any m_bothSend m_meanCards m_bestSum m_fitMany m_fitFirst m_fitSecond)), ((m_a 1), .inl (cI, 4, .inl m_width_c)), ((m_a 2), .inl (cI, 4, .inl m_many_c)), ((m_a 3), .inl (cJ, 240, .inr (.inl (vp_updL j155_m_a3_c y175.toNatClampNeg (j118_m_a4_c j155_l6.toNatClampNeg))))), ((m_a 4), .inl (cJ, 60, .inr (.inl j118_m_a4_c)))] H := hP
          have hD : va_D A [(m, .inr (11, mG m_a 0 m_taped m_at m_token m_place m_value m_word m_bad m_badPlace m_fault m_faultPlace m_willing m_will m_forgot m_isDrawn m_x m_begin m_round m_roundCards m_fate m_any m_bothSend m_meanCards m_bestSum m_fitMany m_fitFirst m_fitSecond)), ((m_a 1), .inl (cI, 4, .inl m_width_c)), ((m_a 2), .inl (cI, 4, .inl m_many_c)), ((m_a 3), .inl (cJ, 240, .inr (.inl (vp_updL j155_m_a3_c y175.toNatClampNeg (j118_m_a4_c j155_l6.toNatClampNeg))))), ((m_a 4), .inl (cJ, 60, .inr (.inl j118_m_a4_c)))] := hD
          rw [← e183] at hP hD
          obtain ⟨y184, e184⟩ : ∃ y : Int32, y = j155_l6 + 1 := ⟨_, rfl⟩
          have q184 : y184.toInt = j155_l6.toInt + 1 := by rw [e184]; exact ad_z rfl rfl r159a (ir_c 1) (by decide) (by decide)
          have r184 : ir y184.toInt 1 60 := ad_r q184 r159a (ir_c 1) (by decide) (by decide)
          refine lv_iinc (v := y184) (lv' := [(6, .int y184), (0, .ref m), (3, .int p2), (4, .int p3), (5, .int p4)]) hx hb dX12_paste_184 hl (k := 4) rfl e184.symm (by decide) rfl (fun ls hl => ?_)
          refine lv_goto (tgt := 155) hx hb dX12_paste_187 (by decide) ?_
          exact ih155 y184 g183 _ _ _ (by omega) (ir_w r184 (by decide) (by decide)) (hP.sub [0, 1, 2, 3, 4] rfl) (hD.sub [0, 1, 2, 3, 4] (by decide) rfl) hS (lv_sub hl [1, 2, 3, 4, 0] rfl)
      exact J155 _ 0 m_cells_c _ _ _ (Nat.lt_succ_self _) (by decide) (hP.sub [0, 1, 2, 3, 4] rfl) (hD.sub [0, 1, 2, 3, 4] (by decide) rfl) hS (lv_sub hl [1, 4, 5, 6, 0] rfl)
  exact J118 _ 0 m_moved_c _ _ _ (Nat.lt_succ_self _) (by decide) (hP.sub [0, 1, 2, 3, 4] rfl) (hD.sub [0, 1, 2, 3, 4] (by decide) rfl) hS (lv_sub hl [1, 2, 3, 4, 5, 6, 0] rfl)
