theorem nI_max {a b : Nat} (ha : a < 2 ^ 31) (hb : b < 2 ^ 31) : (if nI a < nI b then nI b else nI a) = nI (max a b) := by
  by_cases h : a < b
  · rw [if_pos (nI_lt h hb), Nat.max_eq_right (Nat.le_of_lt h)]
  · rw [if_neg (nI_nlt (by omega) ha), Nat.max_eq_left (by omega)]
theorem tsw_0_2 (x : Int32) : (x.toInt < 0 ∨ 2 < x.toInt) ∨ x = 0 ∨ x = 1 ∨ x = 2 := by
  by_cases h : x.toInt < 0 ∨ 2 < x.toInt
  · exact Or.inl h
  · obtain ⟨j, hj, rfl⟩ := natz (x := x) (n := 3) rfl (by omega) (by omega) (by decide)
    right
    match j, hj with
    | 0, _ => exact Or.inl rfl
    | 1, _ => exact Or.inr (Or.inl rfl)
    | 2, _ => exact Or.inr (Or.inr rfl)
    | n + 3, h => omega
def tellV (nb nl nc : Nat) (w : Int) : Int32 := if w = 0 then nI nb else if w = 1 then nI nl else if w = 2 then nI nc else nI (kd nc nl)
noncomputable def cP (p : Nat → Prop) : Nat → Nat
  | 0 => 0
  | n + 1 => cP p n + @ite Nat (p n) (Classical.propDecidable _) 1 0
theorem cP_t {p : Nat → Prop} {n : Nat} (h : p n) : cP p n + 1 = cP p (n + 1) := by
  show _ = cP p n + @ite Nat (p n) (Classical.propDecidable _) 1 0
  rw [if_pos h]
theorem cP_f {p : Nat → Prop} {n : Nat} (h : ¬ p n) : cP p n = cP p (n + 1) := by
  show _ = cP p n + @ite Nat (p n) (Classical.propDecidable _) 1 0
  rw [if_neg h]
  rfl
theorem cP_le {p : Nat → Prop} : ∀ n, cP p n ≤ n
  | 0 => Nat.le_refl _
  | n + 1 => by
    have h := cP_le (p := p) n
    by_cases q : p n
    · rw [← cP_t q]; omega
    · rw [← cP_f q]; omega
theorem cP_congr {p q : Nat → Prop} (h : ∀ k, p k ↔ q k) : ∀ n, cP p n = cP q n
  | 0 => rfl
  | n + 1 => by
    by_cases z : p n
    · rw [← cP_t z, ← cP_t ((h n).mp z), cP_congr h n]
    · rw [← cP_f z, ← cP_f (fun y => z ((h n).mpr y)), cP_congr h n]
def b1 (v : Nat) : Nat := if v = 0 then 0 else 1
theorem e_wA : ∀ a : Fin 32, ∀ s : Fin 16, ((((nI a.val &&& 15) >>> (((nI s.val >>> (0 &&& (31 : Int32))) &&& 3) &&& (31 : Int32))) &&& 1) = 1) ↔ nA a.val s.val = 1 := by decide +kernel
theorem e_wB : ∀ a : Fin 32, ∀ s : Fin 16, ((((nI a.val &&& 15) >>> (((nI s.val >>> (2 &&& (31 : Int32))) &&& 3) &&& (31 : Int32))) &&& 1) = 1) ↔ nB a.val s.val = 1 := by decide +kernel
theorem e_wA' {a s : Nat} (ha : a < 32) (hs : s < 16) : ((((nI a &&& 15) >>> (((nI s >>> (0 &&& (31 : Int32))) &&& 3) &&& (31 : Int32))) &&& 1) = 1) ↔ nA a s = 1 := e_wA ⟨a, ha⟩ ⟨s, hs⟩
theorem e_wB' {a s : Nat} (ha : a < 32) (hs : s < 16) : ((((nI a &&& 15) >>> (((nI s >>> (2 &&& (31 : Int32))) &&& 3) &&& (31 : Int32))) &&& 1) = 1) ↔ nB a s = 1 := e_wB ⟨a, ha⟩ ⟨s, hs⟩
theorem th_eq : ∀ s : Fin 16, ∀ u : Fin 2, ∀ v : Fin 2, (((nI s.val &&& 5) <<< (1 &&& (31 : Int32))) ||| nI u.val) ||| nI (4 * v.val) = nI ((s.val % 2) * 2 + (s.val / 4 % 2) * 8 + u.val + 4 * v.val) := by decide +kernel
theorem th_nx {a b s u v : Nat} (hs : s < 16) (hu : sB a b s = u) (hv : sA a b s = v) : (((nI s &&& 5) <<< (1 &&& (31 : Int32))) ||| nI u) ||| nI (4 * v) = nI (nx a b s) := by
  subst hu
  subst hv
  exact th_eq ⟨s, hs⟩ ⟨sB a b s, Nat.lt_succ_of_le (sB_le a b s)⟩ ⟨sA a b s, Nat.lt_succ_of_le (sA_le a b s)⟩
theorem kd_0 {c l : Nat} (h : c = 0) : (0 : Int32) = nI (kd c l) := by unfold kd; rw [if_pos h]; rfl
theorem kd_1 {c l : Nat} (h : c ≠ 0) (h2 : c = 2 * l) : (1 : Int32) = nI (kd c l) := by unfold kd; rw [if_neg h, if_pos h2]; rfl
theorem kd_2 {c l : Nat} (h : c ≠ 0) (h2 : c ≠ 2 * l) : (2 : Int32) = nI (kd c l) := by unfold kd; rw [if_neg h, if_neg h2]; rfl
