/-- what a method that makes nest mates' objects needs of the tables -/
def nX (L : List (String × Nat × MethodName × String)) (U : State) : Prop := (∀ q ∈ L, va_Nw (.methodLinkNest q.1 q.2.1 q.2.2.1 q.2.2.2) U) ∧ va_AO RX4 U
theorem nX_pick {L L2 : List (String × Nat × MethodName × String)} {U : State} (h : nX L U) (is : List Nat) (hs : is.filterMap (fun i => L[i]?) = L2) : nX L2 U := by
  refine ⟨fun q hq => ?_, h.2⟩
  rw [← hs] at hq
  obtain ⟨i, -, hi⟩ := List.mem_filterMap.mp hq
  exact h.1 q (List.mem_of_getElem? hi)
theorem nX_moved {L : List (String × Nat × MethodName × String)} {s U : State} (hW : s.WarmedH U.vm) (h : nX L s) : nX L U := ⟨fun q hq => va_Nw.warmM hW (h.1 q hq), h.2.moved hW.alike⟩
theorem psN {s : State} {H : Heap} {g : va_G} {T : List (ClassId × FieldType)} {wc : va_W} {As : List Value} {L : List (String × Nat × MethodName × String)} {sz : Nat} (hp : PreS s H (va_Pc As (pRW g T wc sz)) As) (hN : nX L s) : PreS s H (va_Pc As (fun U => pRW g T wc sz U ∧ nX L U)) As :=
  ⟨fun a U gg mk q => ⟨q.1, (pRW_fb a U gg mk ⟨q.1, q.2.1⟩).2, fun w hw => va_Nw.same rfl rfl (q.2.2.1 w hw), va_AO.moved (u := U) (U := U.calling gg mk a) (Vm.Alike.refl U.vm) q.2.2.2⟩, fun U hU hW => ⟨rfl, (hp.2 U hU hW).2, nX_moved hW hN⟩⟩
theorem pvN {s : State} {H : Heap} {C : String} {b : Addr} {g : va_G} {T : List (ClassId × FieldType)} {wc : va_W} {As : List Value} {L : List (String × Nat × MethodName × String)} {sz : Nat} (hp : PreV s H C b (va_Pc (.ref b :: As) (pRW g T wc sz)) As) (hN : nX L s) : PreV s H C b (va_Pc (.ref b :: As) (fun U => pRW g T wc sz U ∧ nX L U)) As :=
  ⟨fun a U gg mk q => ⟨q.1, (pRW_fb a U gg mk ⟨q.1, q.2.1⟩).2, fun w hw => va_Nw.same rfl rfl (q.2.2.1 w hw), va_AO.moved (u := U) (U := U.calling gg mk a) (Vm.Alike.refl U.vm) q.2.2.2⟩, hp.2.1, fun U hU hW => ⟨rfl, (hp.2.2 U hU hW).2, nX_moved hW hN⟩⟩
theorem un_o {g : va_G} {cI cJ cB cZ cL cQ : ClassId} {s : State} (hK : va_K g vwCl (tyT cI cJ cB cZ cL) s) (hK1 : va_K g vwCl (tyT cI cJ cB cZ cL ++ [(cQ, .object RX4)]) s) : cQ = cL := by
  obtain ⟨-, -, -, -, -, h2⟩ := (hK.2 4 (cL, .object RX4) rfl).2
  obtain ⟨-, -, -, -, -, h1⟩ := (hK1.2 5 (cQ, .object RX4) rfl).2
  exact Option.some.inj (h1.symm.trans h2)
theorem cl_z {x : Int32} {a : Int} {n : Nat} (hx : x.toInt = a) (h0 : 0 ≤ a) (h1 : a < (n : Int)) : x.toNatClampNeg < n := by
  have h := vi_in hx h0 h1
  exact Nat.lt_of_not_le (fun q => h (Or.inr q))
theorem vc_in {i : Int32} {n : Nat} (h : ¬ (i < 0 ∨ n ≤ i.toNatClampNeg)) : vp_in i n := h
theorem natz {x : Int32} {a : Int} {n : Nat} (hx : x.toInt = a) (h0 : 0 ≤ a) (h1 : a < (n : Int)) (hn : n < 2 ^ 31) : ∃ j : Nat, j < n ∧ x = nI j := vp_in_of (vi_in hx h0 h1) hn
theorem tsw_0_9 (x : Int32) : (x.toInt < 0 ∨ 9 < x.toInt) ∨ x = 0 ∨ x = 1 ∨ x = 2 ∨ x = 3 ∨ x = 4 ∨ x = 5 ∨ x = 6 ∨ x = 7 ∨ x = 8 ∨ x = 9 := by
  by_cases h : x.toInt < 0 ∨ 9 < x.toInt
  · exact Or.inl h
  · obtain ⟨j, hj, rfl⟩ := natz (x := x) (n := 10) rfl (by omega) (by omega) (by decide)
    right
    match j, hj with
    | 0, _ => exact Or.inl rfl
    | 1, _ => exact Or.inr (Or.inl rfl)
    | 2, _ => exact Or.inr (Or.inr (Or.inl rfl))
    | 3, _ => exact Or.inr (Or.inr (Or.inr (Or.inl rfl)))
    | 4, _ => exact Or.inr (Or.inr (Or.inr (Or.inr (Or.inl rfl))))
    | 5, _ => exact Or.inr (Or.inr (Or.inr (Or.inr (Or.inr (Or.inl rfl)))))
    | 6, _ => exact Or.inr (Or.inr (Or.inr (Or.inr (Or.inr (Or.inr (Or.inl rfl))))))
    | 7, _ => exact Or.inr (Or.inr (Or.inr (Or.inr (Or.inr (Or.inr (Or.inr (Or.inl rfl)))))))
    | 8, _ => exact Or.inr (Or.inr (Or.inr (Or.inr (Or.inr (Or.inr (Or.inr (Or.inr (Or.inl rfl))))))))
    | 9, _ => exact Or.inr (Or.inr (Or.inr (Or.inr (Or.inr (Or.inr (Or.inr (Or.inr (Or.inr rfl))))))))
    | n + 10, h => omega
def doesV (x y z : Int32) (ix iy iz : Int) : Int32 := if (0 ≤ ix ∧ ix < 16) ∧ (0 ≤ iy ∧ iy ≤ 1) ∧ (0 ≤ iz ∧ iz ≤ 1) then (x >>> ((y + (2 * z)) &&& 31)) &&& 1 else (-2)
theorem fill_s {α : Type} {f : Nat → α} {i : Nat} {v : α} {g : Nat → α} (h : ∀ k, k < i → f k = v) (hg : ∀ k, g k = if k = i then v else f k) : ∀ k, k < i + 1 → g k = v := fun k hk => by
  rw [hg k]
  by_cases e : k = i
  · rw [if_pos e]
  · rw [if_neg e]; exact h k (by omega)
