/-! the law's calls -/
theorem lw_ix {ii L : Nat} (k : Nat) (h : ii + 6 ≤ L) (hL : L ≤ 3072) (hk : k < 6) : vp_in (nI ii + nI k) L := by
  rw [nI_add]
  exact vi_in (nI_toInt (by omega)) (by omega) (by omega)
theorem lw_i0 {ii L : Nat} (h : ii + 6 ≤ L) (hL : L ≤ 3072) : vp_in (nI ii) L := vi_in (nI_toInt (by omega)) (by omega) (by omega)
section LC
variable {p : Program} {l : Launch} {e : Env} {R : Room} {s : State} {m : MethodId} {args : Array Value} {below : List Frame} {meth : Method} {c : Code} {H : Heap} {locs : List Loc} {cells slots : Nat} {Q : State → Prop}
variable {pc : Nat} {ls : Array Slot} {rest st0 : List Value} {a : Array Value} {A0 : Nat → Prop} {H0 : Heap} {mc ms : Nat} {g : va_G} {T : List (ClassId × FieldType)} {X Rr : va_W}
theorem lc_i {Z : Int32 → va_W → Prop} (hr : va_Run p l e R s m args below meth c H locs cells slots mc ms (F0 m pc ls st0) rest (va_Qi Z (fun w2 t => va_P g vwCl w2 t.heap ∧ va_D (va_A X H.size) w2) (va_A X H.size) a) (va_A X H.size)) (hS : va_S A0 H0 H locs) (hA : ∀ q, H0.size ≤ q → A0 q) (hP : va_P g vwCl (X ++ Rr) H) (hD : va_D A0 (X ++ Rr))
    (kk : ∀ (r : Int32) (w2 : va_W) (H1 : Heap) (locs1 : List Loc), Z r w2 → va_P g vwCl (w2 ++ Rr) H1 → va_D A0 (w2 ++ Rr) → va_S A0 H0 H1 locs1 → W p l e R s m args below meth c H1 locs1 (cells + mc) (slots + ms) Q (F0 m (pc + 3) ls (.int r :: rest))) : W p l e R s m args below meth c H locs cells slots Q (F0 m pc ls st0) :=
  va_calli hr hS (fun q _ h => pm_AX hD hS hA q h) (pm_AX hD hS hA) (fun r u t H1 locs1 ht hvm hw hB hz hk hS1 => by
    obtain ⟨hP1, hD1⟩ := hB
    rw [ht] at hP1
    obtain ⟨k1, k2⟩ := pm_join hP hD hk (pm_AX hD hS hA) hP1 hD1
    exact kk r u H1 locs1 hw k1 k2 hS1)
theorem lc_l {Z : Int64 → va_W → Prop} (hr : va_Run p l e R s m args below meth c H locs cells slots mc ms (F0 m pc ls st0) rest (va_Ql Z (fun w2 t => va_P g vwCl w2 t.heap ∧ va_D (va_A X H.size) w2) (va_A X H.size) a) (va_A X H.size)) (hS : va_S A0 H0 H locs) (hA : ∀ q, H0.size ≤ q → A0 q) (hP : va_P g vwCl (X ++ Rr) H) (hD : va_D A0 (X ++ Rr))
    (kk : ∀ (r : Int64) (w2 : va_W) (H1 : Heap) (locs1 : List Loc), Z r w2 → va_P g vwCl (w2 ++ Rr) H1 → va_D A0 (w2 ++ Rr) → va_S A0 H0 H1 locs1 → W p l e R s m args below meth c H1 locs1 (cells + mc) (slots + ms) Q (F0 m (pc + 3) ls (.long r :: rest))) : W p l e R s m args below meth c H locs cells slots Q (F0 m pc ls st0) :=
  va_calll hr hS (fun q _ h => pm_AX hD hS hA q h) (pm_AX hD hS hA) (fun r u t H1 locs1 ht hvm hw hB hz hk hS1 => by
    obtain ⟨hP1, hD1⟩ := hB
    rw [ht] at hP1
    obtain ⟨k1, k2⟩ := pm_join hP hD hk (pm_AX hD hS hA) hP1 hD1
    exact kk r u H1 locs1 hw k1 k2 hS1)
theorem lc_pre {As : List Value} {kA vA : Nat → Nat} {b ci : Nat} {q : vw_C} (hK : va_K g vwCl T s) (hE : ENV kA vA A0 s) (hS : va_S A0 s.heap H locs) (hA : ∀ q, s.heap.size ≤ q → A0 q) (hP : va_P g vwCl (X ++ Rr) H) (hD : va_D A0 (X ++ Rr)) (hc : vwCl[ci]? = some q) (he : ∃ fs, (b, (.inr (ci, fs) : va_E)) ∈ X) : PreV s H q.1 b (va_Pc (.ref b :: As) (eRW g T X H.size kA vA)) As := by
  obtain ⟨fs, he⟩ := he
  obtain ⟨i, hi⟩ := List.getElem?_of_mem he
  exact ⟨eRW_fb, va_recv hK (pm_l hP) hc hi, fun U hU hW => ⟨rfl, ⟨by rw [hU], by rw [hU]; exact pm_l hP, va_K.moved hW.alike hK, (pm_Dl hD).weaken (fun _ _ _ _ => trivial)⟩, hE.move hS (pm_AX hD hS hA) hU hW⟩⟩
end LC
/-- the leaves of a condition -/
def cLv : Cond → List Cond
  | .and a b => cLv a ++ cLv b
  | c => [c]
theorem cLv_all {args : Array Value} {s : State} {c : Cond} : c.before args s = true → ∀ w ∈ cLv c, w.before args s = true := by
  induction c with
  | and a b ha hb =>
    intro h w hw
    rw [Cond.before_and, Bool.and_eq_true] at h
    rcases List.mem_append.mp hw with q | q
    · exact ha h.1 w q
    · exact hb h.2 w q
  | _ => intro h w hw; exact (List.mem_singleton.mp hw) ▸ h
theorem xt_mem {cI cJ cB cZ cL : ClassId} {x : Nat} {sw sn ki : Nat → Int32} {ws : va_W} (h : XTSt cI cJ cB cZ cL x sw sn ki ws) : ∃ fs, (x, (.inr (10, fs) : va_E)) ∈ ws := by
  obtain ⟨im, X, A, B, D, fo, hp, ⟨xa, xs, xl, xf, xg, rfl, rfl, rfl, -⟩, -⟩ := h
  exact ⟨_, hp.symm.subset (List.mem_append_left _ List.mem_cons_self)⟩
theorem mt_mem {cI cJ cB cZ cL : ClassId} {m : Nat} {mw mn kp : Nat → Int32} {ws : va_W} (h : MSt cI cJ cB cZ cL m mw mn kp ws) : ∃ fs, (m, (.inr (11, fs) : va_E)) ∈ ws := by
  obtain ⟨m_a, ms, ml, mf, mg, rfl, -⟩ := h
  exact ⟨_, List.mem_cons_self⟩
theorem law_gt {ii L : Nat} (h : L < ii + 6) (h1 : ii ≤ 3072) : Int32.ofNat L - 6 < nI ii := by
  refine Int32.lt_iff_toInt_lt.mpr ?_
  have e1 : (Int32.ofNat L).toInt = (L : Int) := nI_toInt (n := L) (by omega)
  have e2 : (nI ii).toInt = (ii : Int) := nI_toInt (by omega)
  have e3 : (6 : Int32).toInt = 6 := rfl
  rw [Int32.toInt_sub, e1, e2, e3, gb_mod (by omega) (by omega)]
  omega
theorem law_le {ii L : Nat} (h : ii + 6 ≤ L) (h1 : L ≤ 3072) : ¬ Int32.ofNat L - 6 < nI ii := by
  intro q
  have q := Int32.lt_iff_toInt_lt.mp q
  have e1 : (Int32.ofNat L).toInt = (L : Int) := nI_toInt (n := L) (by omega)
  have e2 : (nI ii).toInt = (ii : Int) := nI_toInt (by omega)
  have e3 : (6 : Int32).toInt = 6 := rfl
  rw [Int32.toInt_sub, e1, e2, e3, gb_mod (by omega) (by omega)] at q
  omega
theorem ar_m1 {f : Nat → Int32} (h : ∀ k, k < 4 → f k = (-1)) : ar f 4 (-1) 60 := fun k hk => by rw [h k hk]; decide
theorem hasI_z : hasI (fun _ => 0) := fun _ _ => ⟨(show ir (0 : Int32).toInt 0 40 by decide), (show ir (0 : Int32).toInt 0 10 by decide), (show ir (0 : Int32).toInt 0 16 by decide)⟩
theorem perI_z : perI (fun _ => 0) := fun _ _ => ⟨(show ir (0 : Int32).toInt 0 15 by decide), (show ir (0 : Int32).toInt 0 1 by decide)⟩
theorem rwaI_z : rwaI (fun _ => 0) := fun _ _ => ⟨(show ir (0 : Int32).toInt 0 15 by decide), (show ir (0 : Int32).toInt 0 1 by decide)⟩
