/-! what two rules do from a state, in whole numbers -/
def nA (a s : Nat) : Nat := a / 2 ^ (s % 4) % 2
def nB (b s : Nat) : Nat := b / 2 ^ (s / 4 % 4) % 2
def sA (a b s : Nat) : Nat := if nA a s = 1 ∨ (16 ≤ a ∧ nB b s = 1) then 1 else 0
def zB (a b s : Nat) : Nat := if nB b s = 1 ∨ (16 ≤ b ∧ nA a s = 1) then 1 else 0
def nx (a b s : Nat) : Nat := (s % 2) * 2 + (s / 4 % 2) * 8 + zB a b s + 4 * sA a b s
def sc (a b s : Nat) : Nat := sA a b s + zB a b s
theorem nA_lt (a s : Nat) : nA a s < 2 := Nat.mod_lt _ (by decide)
theorem nB_lt (a s : Nat) : nB a s < 2 := Nat.mod_lt _ (by decide)
theorem sA_le (a b s : Nat) : sA a b s ≤ 1 := by unfold sA; split <;> omega
theorem zB_le (a b s : Nat) : zB a b s ≤ 1 := by unfold zB; split <;> omega
theorem nx_lt (a b s : Nat) : nx a b s < 16 := by
  have h1 := sA_le a b s
  have h2 := zB_le a b s
  unfold nx
  omega
theorem sc_le (a b s : Nat) : sc a b s ≤ 2 := by
  have h1 := sA_le a b s
  have h2 := zB_le a b s
  unfold sc
  omega
def pt (a b s : Nat) : Nat → Nat
  | 0 => s
  | k + 1 => nx a b (pt a b s k)
theorem pt_lt {a b s : Nat} (h : s < 16) (k : Nat) : pt a b s k < 16 := by
  cases k with
  | zero => exact h
  | succ k => exact nx_lt _ _ _
def FT (a b s j n : Nat) : Prop := j < n ∧ pt a b s j = pt a b s n ∧ ∀ i k, i < k → k < n → pt a b s i ≠ pt a b s k
theorem FT_one {a b s j n j2 n2 : Nat} (h1 : FT a b s j n) (h2 : FT a b s j2 n2) : j = j2 ∧ n = n2 := by
  obtain ⟨a1, b1, c1⟩ := h1
  obtain ⟨a2, b2, c2⟩ := h2
  have hn : n = n2 := by
    rcases Nat.lt_trichotomy n n2 with h | h | h
    · exact absurd b1 (c2 j n a1 h)
    · exact h
    · exact absurd b2 (c1 j2 n2 a2 h)
  subst hn
  refine ⟨?_, rfl⟩
  rcases Nat.lt_trichotomy j j2 with h | h | h
  · exact absurd (b1.trans b2.symm) (c1 j j2 h a2)
  · exact h
  · exact absurd (b2.trans b1.symm) (c1 j2 j h a1)
noncomputable def fP (a b s : Nat) : Nat × Nat := Classical.epsilon (fun q : Nat × Nat => FT a b s q.1 q.2)
noncomputable def fJ (a b s : Nat) : Nat := (fP a b s).1
noncomputable def fN (a b s : Nat) : Nat := (fP a b s).2
theorem fP_eq {a b s j n : Nat} (h : FT a b s j n) : fJ a b s = j ∧ fN a b s = n := FT_one (Classical.epsilon_spec (p := fun q : Nat × Nat => FT a b s q.1 q.2) ⟨(j, n), h⟩) h
def sm (f : Nat → Nat) : Nat → Nat
  | 0 => 0
  | n + 1 => sm f n + f n
theorem sm_le {f : Nat → Nat} {c : Nat} (h : ∀ k, f k ≤ c) : ∀ n, sm f n ≤ c * n
  | 0 => Nat.zero_le _
  | n + 1 => by
    have h1 := sm_le h n
    have h2 := h n
    rw [Nat.mul_succ]
    show sm f n + f n ≤ _
    omega
theorem sm_congr {f g : Nat → Nat} (h : ∀ k, f k = g k) : ∀ n, sm f n = sm g n
  | 0 => rfl
  | n + 1 => by show sm f n + f n = sm g n + g n; rw [sm_congr h n, h n]
noncomputable def fL (a b s : Nat) : Nat := fN a b s - fJ a b s
noncomputable def fC (a b s : Nat) : Nat := sm (fun t => sc a b (pt a b s (fN a b s + t))) (fL a b s)
def kd (c l : Nat) : Nat := if c = 0 then 0 else if c = 2 * l then 1 else 2
noncomputable def fK (a b s : Nat) : Nat := kd (fC a b s) (fL a b s)
theorem kd_le (c l : Nat) : kd c l ≤ 2 := by
  unfold kd
  split
  · omega
  · split <;> omega
theorem pg_holes : ∀ (m n : Nat) (f : Nat → Nat), (∀ i, i < n → f i < m) → (∀ i j, i < j → j < n → f i ≠ f j) → n ≤ m := by
  intro m
  induction m with
  | zero =>
    intro n f h1 _
    rcases Nat.eq_zero_or_pos n with h | h
    · omega
    · exact absurd (h1 0 h) (Nat.not_lt_zero _)
  | succ m ih =>
    intro n f h1 h2
    by_cases hx : ∃ i, i < n ∧ f i = m
    · obtain ⟨a, ha, hfa⟩ := hx
      have hg := ih (n - 1) (fun i => if i < a then f i else f (i + 1)) (by
        intro i hi
        by_cases q : i < a
        · simp only [if_pos q]
          have b1 := h1 i (by omega)
          have b2 := h2 i a q ha
          omega
        · simp only [if_neg q]
          have b1 := h1 (i + 1) (by omega)
          have b2 := h2 a (i + 1) (by omega) (by omega)
          omega) (by
        intro i j hij hj
        by_cases q : i < a
        · by_cases r : j < a
          · simp only [if_pos q, if_pos r]
            exact h2 i j hij (by omega)
          · simp only [if_pos q, if_neg r]
            exact h2 i (j + 1) (by omega) (by omega)
        · have r : ¬ j < a := by omega
          simp only [if_neg q, if_neg r]
          exact h2 (i + 1) (j + 1) (by omega) (by omega))
      omega
    · have hg := ih n f (fun i hi => by
        have b1 := h1 i hi
        have b2 : f i ≠ m := fun e => hx ⟨i, hi, e⟩
        omega) h2
      omega
/-- what the row of years says behind k of them -/
def CM (a b s k : Nat) (f : Nat → Int32) : Prop := ∀ t, t < 16 → (∃ j, j < k ∧ pt a b s j = t ∧ f t = nI j) ∨ ((∀ j, j < k → pt a b s j ≠ t) ∧ f t = (-1))
def DS (a b s k : Nat) : Prop := ∀ i j, i < j → j < k → pt a b s i ≠ pt a b s j
theorem CM_0 {a b s : Nat} {f : Nat → Int32} (h : ∀ t, t < 16 → f t = (-1)) : CM a b s 0 f := fun t ht => Or.inr ⟨fun j hj => absurd hj (Nat.not_lt_zero _), h t ht⟩
theorem DS_0 {a b s : Nat} : DS a b s 0 := fun _ _ _ hj => absurd hj (Nat.not_lt_zero _)
theorem DS_s {a b s k : Nat} (h : DS a b s k) (hn : ∀ j, j < k → pt a b s j ≠ pt a b s k) : DS a b s (k + 1) := fun i j hij hj => by
  rcases Nat.lt_or_ge j k with q | q
  · exact h i j hij q
  · have e : j = k := by omega
    subst e
    exact hn i hij
theorem DS_room {a b s k : Nat} (hs : s < 16) (h : DS a b s k) (hn : ∀ j, j < k → pt a b s j ≠ pt a b s k) : k < 16 := by
  have := pg_holes 16 (k + 1) (pt a b s) (fun i _ => pt_lt hs i) (DS_s h hn)
  omega
theorem CM_s {a b s k : Nat} {f g : Nat → Int32} (h : CM a b s k f) (hn : ∀ j, j < k → pt a b s j ≠ pt a b s k) (hg : ∀ t, g t = if t = pt a b s k then nI k else f t) : CM a b s (k + 1) g := fun t ht => by
  rw [hg t]
  by_cases e : t = pt a b s k
  · rw [if_pos e]
    exact Or.inl ⟨k, Nat.lt_succ_self _, e.symm, rfl⟩
  · rw [if_neg e]
    rcases h t ht with ⟨j, h1, h2, h3⟩ | ⟨h1, h2⟩
    · exact Or.inl ⟨j, by omega, h2, h3⟩
    · refine Or.inr ⟨fun j hj => ?_, h2⟩
      rcases Nat.lt_or_ge j k with q | q
      · exact h1 j q
      · have e2 : j = k := by omega
        subst e2
        exact fun z => e z.symm
/-- one who sent none and none: the class's own way -/
def Yfirsts (x y z : Int32) : Int32 := ((x >>> ((z &&& 3) &&& (31 : Int32))) &&& 1) ||| (((y >>> (((z >>> (2 &&& (31 : Int32))) &&& 3) &&& (31 : Int32))) &&& 1) <<< (1 &&& (31 : Int32)))
def Yreturning (x y : Int32) : Int32 := ((x >>> (4 &&& (31 : Int32))) &&& 1) ||| (((y >>> (4 &&& (31 : Int32))) &&& 1) <<< (1 &&& (31 : Int32)))
def Ybacks (x y z : Int32) : Int32 := ((x ^^^ (-1)) &&& y) &&& ((((x &&& z) &&& 1) <<< (1 &&& (31 : Int32))) ||| ((x &&& z) >>> (1 &&& (31 : Int32))))
def Yswapped (x : Int32) : Int32 := ((x &&& 1) <<< (1 &&& (31 : Int32))) ||| ((x >>> (1 &&& (31 : Int32))) &&& 1)
def Yafter (x y : Int32) : Int32 := (((x &&& 5) <<< (1 &&& (31 : Int32))) ||| (y &&& 1)) ||| ((y &&& 2) <<< (1 &&& (31 : Int32)))
def Fsent (x y z w : Int32) : Int32 := Yfirsts x y z ||| Ybacks (Yfirsts x y z) (Yreturning x y) w
def Fnext (x y z w : Int32) : Int32 := Yafter z (Yswapped (Fsent x y z w &&& w))
theorem e_A : ∀ a : Fin 32, ∀ s : Fin 16, (nI a.val >>> ((nI s.val &&& 3) &&& (31 : Int32))) &&& 1 = nI (nA a.val s.val) := by decide +kernel
theorem e_B : ∀ a : Fin 32, ∀ s : Fin 16, (nI a.val >>> (((nI s.val >>> (2 &&& (31 : Int32))) &&& 3) &&& (31 : Int32))) &&& 1 = nI (nB a.val s.val) := by decide +kernel
theorem e_R : ∀ a : Fin 32, (nI a.val >>> (4 &&& (31 : Int32))) &&& 1 = nI (a.val / 16) := by decide +kernel
theorem e_S : ∀ x : Fin 2, ∀ y : Fin 2, ∀ ra : Fin 2, ∀ rb : Fin 2, (nI x.val ||| (nI y.val <<< (1 &&& (31 : Int32)))) ||| Ybacks (nI x.val ||| (nI y.val <<< (1 &&& (31 : Int32)))) (nI ra.val ||| (nI rb.val <<< (1 &&& (31 : Int32)))) 3 = nI ((if x.val = 1 ∨ (ra.val = 1 ∧ y.val = 1) then 1 else 0) + 2 * (if y.val = 1 ∨ (rb.val = 1 ∧ x.val = 1) then 1 else 0)) := by decide +kernel
theorem e_N : ∀ s : Fin 16, ∀ u : Fin 2, ∀ v : Fin 2, Yafter (nI s.val) (Yswapped (nI (u.val + 2 * v.val) &&& 3)) = nI ((s.val % 2) * 2 + (s.val / 4 % 2) * 8 + v.val + 4 * u.val) := by decide +kernel
theorem Fsent_n {a b s : Nat} (ha : a < 32) (hb : b < 32) (hs : s < 16) : Fsent (nI a) (nI b) (nI s) 3 = nI (sA a b s + 2 * zB a b s) := by
  have h1 := e_A ⟨a, ha⟩ ⟨s, hs⟩
  have h2 := e_B ⟨b, hb⟩ ⟨s, hs⟩
  have h3 := e_R ⟨a, ha⟩
  have h4 := e_R ⟨b, hb⟩
  dsimp only at h1 h2 h3 h4
  have h5 := e_S ⟨nA a s, nA_lt a s⟩ ⟨nB b s, nB_lt b s⟩ ⟨a / 16, by omega⟩ ⟨b / 16, by omega⟩
  dsimp only at h5
  unfold Fsent Yfirsts Yreturning
  rw [h1, h2, h3, h4, h5]
  congr 1
  have ea : (a / 16 = 1) ↔ 16 ≤ a := by omega
  have eb : (b / 16 = 1) ↔ 16 ≤ b := by omega
  unfold sA zB
  simp only [ea, eb]
theorem Fnext_n {a b s : Nat} (ha : a < 32) (hb : b < 32) (hs : s < 16) : Fnext (nI a) (nI b) (nI s) 3 = nI (nx a b s) := by
  have h := e_N ⟨s, hs⟩ ⟨sA a b s, Nat.lt_succ_of_le (sA_le a b s)⟩ ⟨zB a b s, Nat.lt_succ_of_le (zB_le a b s)⟩
  dsimp only at h
  unfold Fnext
  rw [Fsent_n ha hb hs]
  exact h
/-- the two sides changed -/
def sw (s : Nat) : Nat := s / 4 % 4 + 4 * (s % 4)
theorem sw_1 : ∀ s : Fin 16, (s.val / 4 % 4 + 4 * (s.val % 4)) / 4 % 4 = s.val % 4 := by decide
theorem sw_2 : ∀ s : Fin 16, sw (sw s.val) = s.val := by decide
theorem sw_3 : ∀ s : Fin 16, ∀ u : Fin 2, ∀ v : Fin 2, sw s.val % 2 * 2 + sw s.val / 4 % 2 * 8 + u.val + 4 * v.val = sw (s.val % 2 * 2 + s.val / 4 % 2 * 8 + v.val + 4 * u.val) := by decide
theorem sw_A (b s : Nat) (hs : s < 16) : nA b (sw s) = nB b s := by
  unfold nA nB sw
  have : (s / 4 % 4 + 4 * (s % 4)) % 4 = s / 4 % 4 := by omega
  rw [this]
theorem sw_B (a s : Nat) (hs : s < 16) : nB a (sw s) = nA a s := by
  unfold nA nB sw
  have : (s / 4 % 4 + 4 * (s % 4)) / 4 % 4 = s % 4 := sw_1 ⟨s, hs⟩
  rw [this]
theorem sw_sA (a b s : Nat) (hs : s < 16) : sA b a (sw s) = zB a b s := by
  unfold sA zB
  rw [sw_A b s hs, sw_B a s hs]
theorem sw_sB (a b s : Nat) (hs : s < 16) : zB b a (sw s) = sA a b s := by
  unfold sA zB
  rw [sw_A b s hs, sw_B a s hs]
theorem sw_lt {s : Nat} (_ : s < 16) : sw s < 16 := by unfold sw; omega
theorem sw_nx (a b s : Nat) (hs : s < 16) : nx b a (sw s) = sw (nx a b s) := by
  unfold nx
  rw [sw_sA a b s hs, sw_sB a b s hs]
  exact sw_3 ⟨s, hs⟩ ⟨sA a b s, Nat.lt_succ_of_le (sA_le a b s)⟩ ⟨zB a b s, Nat.lt_succ_of_le (zB_le a b s)⟩
theorem sw_inj {s t : Nat} (hs : s < 16) (ht : t < 16) (h : sw s = sw t) : s = t := by unfold sw at h; omega
theorem sw_sw {s : Nat} (hs : s < 16) : sw (sw s) = s := sw_2 ⟨s, hs⟩
theorem sw_pt {a b s : Nat} (hs : s < 16) : ∀ k, pt b a (sw s) k = sw (pt a b s k)
  | 0 => rfl
  | k + 1 => by
    show nx b a (pt b a (sw s) k) = sw (nx a b (pt a b s k))
    rw [sw_pt hs k, sw_nx a b _ (pt_lt hs k)]
theorem sw_FT {a b s j n : Nat} (hs : s < 16) (h : FT a b s j n) : FT b a (sw s) j n := by
  obtain ⟨h1, h2, h3⟩ := h
  refine ⟨h1, by rw [sw_pt hs, sw_pt hs, h2], fun i k hik hk e => ?_⟩
  rw [sw_pt hs, sw_pt hs] at e
  exact h3 i k hik hk (sw_inj (pt_lt hs i) (pt_lt hs k) e)
theorem sw_sc (a b s : Nat) (hs : s < 16) : sc b a (sw s) = sc a b s := by
  unfold sc
  rw [sw_sA a b s hs, sw_sB a b s hs]
  omega
theorem FT_is {a b s : Nat} (hs : s < 16) : ∃ j n, FT a b s j n ∧ n ≤ 16 := by
  have key : ∀ m, m ≤ 17 → DS a b s m ∨ ∃ j n, FT a b s j n ∧ n < m := by
    intro m
    induction m with
    | zero => exact fun _ => Or.inl DS_0
    | succ m ih =>
      intro hm
      rcases ih (by omega) with h | ⟨j, n, h, hn⟩
      · by_cases hx : ∃ j, j < m ∧ pt a b s j = pt a b s m
        · obtain ⟨j, hj, e⟩ := hx
          exact Or.inr ⟨j, m, ⟨hj, e, h⟩, Nat.lt_succ_self _⟩
        · exact Or.inl (DS_s h (fun j hj e => hx ⟨j, hj, e⟩))
      · exact Or.inr ⟨j, n, h, by omega⟩
  rcases key 17 (Nat.le_refl _) with h | ⟨j, n, h, hn⟩
  · have := pg_holes 16 17 (pt a b s) (fun i _ => pt_lt hs i) h
    omega
  · exact ⟨j, n, h, by omega⟩
theorem sw_fK {a b s : Nat} (hs : s < 16) : fK b a (sw s) = fK a b s := by
  obtain ⟨j, n, h, -⟩ := FT_is (a := a) (b := b) hs
  obtain ⟨h1, h2⟩ := fP_eq h
  obtain ⟨h3, h4⟩ := fP_eq (sw_FT hs h)
  have hl : fL b a (sw s) = fL a b s := by unfold fL; rw [h1, h2, h3, h4]
  have hc : fC b a (sw s) = fC a b s := by
    unfold fC
    rw [hl, h2, h4]
    exact sm_congr (fun k => by rw [sw_pt hs, sw_sc a b _ (pt_lt hs _)]) _
  unfold fK
  rw [hl, hc]
theorem fL_eq {a b s j n : Nat} (h : FT a b s j n) : fL a b s = n - j := by
  obtain ⟨h1, h2⟩ := fP_eq h
  unfold fL
  rw [h1, h2]
theorem fC_eq {a b s j n : Nat} (h : FT a b s j n) : fC a b s = sm (fun t => sc a b (pt a b s (n + t))) (n - j) := by
  obtain ⟨h1, h2⟩ := fP_eq h
  unfold fC
  rw [fL_eq h, h2]
theorem fL_le {a b s : Nat} (hs : s < 16) : 1 ≤ fL a b s ∧ fL a b s ≤ 16 := by
  obtain ⟨j, n, h, hn⟩ := FT_is (a := a) (b := b) hs
  rw [fL_eq h]
  have := h.1
  omega
theorem fC_le {a b s : Nat} (hs : s < 16) : fC a b s ≤ 32 := by
  have h1 := fL_le (a := a) (b := b) hs
  have h2 := sm_le (f := fun t => sc a b (pt a b s (fN a b s + t))) (c := 2) (fun k => sc_le _ _ _) (fL a b s)
  unfold fC
  omega
theorem fJ_le {a b s : Nat} (hs : s < 16) : fJ a b s ≤ 15 := by
  obtain ⟨j, n, h, hn⟩ := FT_is (a := a) (b := b) hs
  rw [(fP_eq h).1]
  have := h.1
  omega
theorem fK_le (a b s : Nat) : fK a b s ≤ 2 := kd_le _ _
/-- how many, the most -/
def ct (p : Nat → Bool) : Nat → Nat
  | 0 => 0
  | n + 1 => ct p n + (if p n then 1 else 0)
theorem ct_le (p : Nat → Bool) : ∀ n, ct p n ≤ n
  | 0 => Nat.le_refl _
  | n + 1 => by
    have h := ct_le p n
    show ct p n + (if p n then 1 else 0) ≤ n + 1
    split <;> omega
theorem ct_congr {p q : Nat → Bool} : ∀ {n : Nat}, (∀ k, k < n → p k = q k) → ct p n = ct q n
  | 0, _ => rfl
  | n + 1, h => by
    show ct p n + (if p n then 1 else 0) = ct q n + (if q n then 1 else 0)
    rw [ct_congr (fun k hk => h k (by omega)), h n (by omega)]
def mx (f : Nat → Nat) : Nat → Nat
  | 0 => 0
  | n + 1 => max (mx f n) (f n)
theorem mx_le {f : Nat → Nat} {c : Nat} : ∀ {n : Nat}, (∀ k, k < n → f k ≤ c) → mx f n ≤ c
  | 0, _ => Nat.zero_le _
  | n + 1, h => Nat.max_le.mpr ⟨mx_le (fun k hk => h k (by omega)), h n (by omega)⟩
/-- a pair of such rules dies from some state -/
def dy (a b : Nat) : Prop := ∃ s, s < 16 ∧ fK a b s = 0
theorem dy_sw (a b : Nat) : dy a b ↔ dy b a := ⟨fun ⟨s, hs, h⟩ => ⟨sw s, sw_lt hs, by rw [sw_fK hs]; exact h⟩, fun ⟨s, hs, h⟩ => ⟨sw s, sw_lt hs, by rw [sw_fK hs]; exact h⟩⟩
theorem nI_max {a b : Nat} (ha : a < 2 ^ 31) (hb : b < 2 ^ 31) : (if nI a < nI b then nI b else nI a) = nI (max a b) := by
  by_cases h : a < b
  · rw [if_pos (nI_lt h hb), Nat.max_eq_right (Nat.le_of_lt h)]
  · rw [if_neg (nI_nlt (by omega) ha), Nat.max_eq_left (by omega)]
theorem tsw_0_2 (x : Int32) : (x.toInt < 0 ∨ 2 < x.toInt) ∨ x = 0 ∨ x = 1 ∨ x = 2 := by
  by_cases h : x.toInt < 0 ∨ 2 < x.toInt
  · exact Or.inl h
  · obtain ⟨j, hj, rfl⟩ := natz (x := x) (n := 3) rfl (by omega) (by omega) (by decide)
    right
    match j, hj with
    | 0, _ => exact Or.inl rfl
    | 1, _ => exact Or.inr (Or.inl rfl)
    | 2, _ => exact Or.inr (Or.inr rfl)
    | n + 3, h => omega
def tellV (nb nl nc : Nat) (w : Int) : Int32 := if w = 0 then nI nb else if w = 1 then nI nl else if w = 2 then nI nc else nI (kd nc nl)
noncomputable def cP (p : Nat → Prop) : Nat → Nat
  | 0 => 0
  | n + 1 => cP p n + @ite Nat (p n) (Classical.propDecidable _) 1 0
theorem cP_t {p : Nat → Prop} {n : Nat} (h : p n) : cP p n + 1 = cP p (n + 1) := by
  show _ = cP p n + @ite Nat (p n) (Classical.propDecidable _) 1 0
  rw [if_pos h]
theorem cP_f {p : Nat → Prop} {n : Nat} (h : ¬ p n) : cP p n = cP p (n + 1) := by
  show _ = cP p n + @ite Nat (p n) (Classical.propDecidable _) 1 0
  rw [if_neg h]
  rfl
theorem cP_le {p : Nat → Prop} : ∀ n, cP p n ≤ n
  | 0 => Nat.le_refl _
  | n + 1 => by
    have h := cP_le (p := p) n
    by_cases q : p n
    · rw [← cP_t q]; omega
    · rw [← cP_f q]; omega
theorem cP_congr {p q : Nat → Prop} (h : ∀ k, p k ↔ q k) : ∀ n, cP p n = cP q n
  | 0 => rfl
  | n + 1 => by
    by_cases z : p n
    · rw [← cP_t z, ← cP_t ((h n).mp z), cP_congr h n]
    · rw [← cP_f z, ← cP_f (fun y => z ((h n).mpr y)), cP_congr h n]
def b1 (v : Nat) : Nat := if v = 0 then 0 else 1
theorem e_wA : ∀ a : Fin 32, ∀ s : Fin 16, ((((nI a.val &&& 15) >>> (((nI s.val >>> (0 &&& (31 : Int32))) &&& 3) &&& (31 : Int32))) &&& 1) = 1) ↔ nA a.val s.val = 1 := by decide +kernel
theorem e_wB : ∀ a : Fin 32, ∀ s : Fin 16, ((((nI a.val &&& 15) >>> (((nI s.val >>> (2 &&& (31 : Int32))) &&& 3) &&& (31 : Int32))) &&& 1) = 1) ↔ nB a.val s.val = 1 := by decide +kernel
theorem e_wA' {a s : Nat} (ha : a < 32) (hs : s < 16) : ((((nI a &&& 15) >>> (((nI s >>> (0 &&& (31 : Int32))) &&& 3) &&& (31 : Int32))) &&& 1) = 1) ↔ nA a s = 1 := e_wA ⟨a, ha⟩ ⟨s, hs⟩
theorem e_wB' {a s : Nat} (ha : a < 32) (hs : s < 16) : ((((nI a &&& 15) >>> (((nI s >>> (2 &&& (31 : Int32))) &&& 3) &&& (31 : Int32))) &&& 1) = 1) ↔ nB a s = 1 := e_wB ⟨a, ha⟩ ⟨s, hs⟩
theorem th_eq : ∀ s : Fin 16, ∀ u : Fin 2, ∀ v : Fin 2, (((nI s.val &&& 5) <<< (1 &&& (31 : Int32))) ||| nI u.val) ||| nI (4 * v.val) = nI ((s.val % 2) * 2 + (s.val / 4 % 2) * 8 + u.val + 4 * v.val) := by decide +kernel
theorem th_nx {a b s u v : Nat} (hs : s < 16) (hu : zB a b s = u) (hv : sA a b s = v) : (((nI s &&& 5) <<< (1 &&& (31 : Int32))) ||| nI u) ||| nI (4 * v) = nI (nx a b s) := by
  subst hu
  subst hv
  exact th_eq ⟨s, hs⟩ ⟨zB a b s, Nat.lt_succ_of_le (zB_le a b s)⟩ ⟨sA a b s, Nat.lt_succ_of_le (sA_le a b s)⟩
theorem kd_0 {c l : Nat} (h : c = 0) : (0 : Int32) = nI (kd c l) := by unfold kd; rw [if_pos h]; rfl
theorem kd_1 {c l : Nat} (h : c ≠ 0) (h2 : c = 2 * l) : (1 : Int32) = nI (kd c l) := by unfold kd; rw [if_neg h, if_pos h2]; rfl
theorem kd_2 {c l : Nat} (h : c ≠ 0) (h2 : c ≠ 2 * l) : (2 : Int32) = nI (kd c l) := by unfold kd; rw [if_neg h, if_neg h2]; rfl
theorem fJL_le {a b s : Nat} (hs : s < 16) : fJ a b s + fL a b s ≤ 16 := by
  obtain ⟨j, n, h, hn⟩ := FT_is (a := a) (b := b) hs
  have e1 := (fP_eq h).1
  have e2 := fL_eq h
  have e3 := h.1
  omega
/-- how long a PAIR's ROUND is -/
noncomputable def rdV (pr pe : Nat → Int32) (q : Int32) : Nat := fL (sdV pr pe q 0).toNatClampNeg (sdV pr pe q 1).toNatClampNeg (pr (3 * q + 2).toNatClampNeg).toNatClampNeg
theorem ld_dec {P a t A T : Int} {n : Nat} (hn : (5 * (P - a) + t).toNat < n + 1) (ht : t ≠ 0) (ht0 : 0 ≤ t ∧ t ≤ 4) (h : a ≤ A ∧ A ≤ P ∧ 0 ≤ T ∧ T ≤ 4 ∧ (a < A ∨ (T = 0 ∧ A = P))) : (5 * (P - A) + T).toNat < n := by omega
def v_X12_in : List Cond := .code yX12_in cX12_in 6 (some .boolean) :: (([] : List Cond) ++ ([] : List Cond))
theorem good_v_X12_in : v_X12_in.all goodWord = true := ga_c (by decide +kernel) (ga_a (by decide +kernel) rfl)
set_option maxHeartbeats 4000000 in
set_option maxRecDepth 100000 in
theorem q_X12_in (l : Launch) (g : va_G) (cI cJ cB cZ cL : ClassId) (p0 : Int64) (ip0 : Int) (p1 : Int64) (ip1 : Int) (p2 : Int64) (ip2 : Int) (sz : Nat) (hz0 : p0.toInt = ip0) (hz1 : p1.toInt = ip1) (hz2 : p2.toInt = ip2) : Met l yX12_in v_X12_in ({ frames := 0, cells := 0, slots := 0, locals := 0 }) (va_Pc [.long p0, .long p1, .long p2] (pRO g (tyT cI cJ cB cZ cL) [] sz)) (va_Qi (fun (r : Int32) (u : Unit) => ((r = 1 ∧ ip1 ≤ ip0 ∧ ip0 ≤ ip2) ∨ (r = 0))) (fun (_ : Unit) (_ : State) => True) (va_A [] sz)) 0 0 (va_A [] sz) := by
  refine Met.ofW (cc := cX12_in) (maxL := 6) (ret := (some .boolean)) (by decide) rfl ?_
  intro p e s mth args below meth c s₁ B hml hv
  obtain ⟨rfl, hsz, hP, hK⟩ := hv
  have hx := B.exec
  have hb := B.bytes
  have hr := B.returns
  have hts := atoms_spec (ws := v_X12_in) B.pre
  have hown : s.vm.findClass RX12 = some mth.cls := findClass_of_methodNamed B.named
  have hlocks := B.notSynchronized
  clear B
  subst hsz
  generalize hAe : (va_A [] s.heap.size) = A
  have hA : ∀ q : Nat, s.heap.size ≤ q → A q := fun q h => by rw [← hAe]; exact Or.inr h
  have hS : va_S A s.heap s.heap [] := va_S.rf
  have hl := lv_entry ([.long p0, .long p1, .long p2]) (n := 6) (Nat.le_of_ble_eq_true rfl)
  rw [lg_entry_eq]
  generalize (lg_sl ([.long p0, .long p1, .long p2]) ++ List.replicate (6 - (lg_sl ([.long p0, .long p1, .long p2])).length) Slot.unset).toArray = ls at hl ⊢
  generalize ([.long p0, .long p1, .long p2] : List Value).toArray = av at hts ⊢
  generalize hQ : MQ below _ av s _ _ A = QQ
  have hl : lv_has ls 6 [(0, .long p0), (2, .long p1), (4, .long p2)] := hl
  have hP : va_P g vwCl [] s.heap := hP
  refine lv_lload_n hx hb dX12_in_0 rfl (lv_at hl 0 rfl) ?_
  refine lv_lload_n hx hb dX12_in_1 rfl (lv_at hl 1 rfl) ?_
  refine W.lcmp hx hb dX12_in_2 ?_
  refine lv_if_lt (tgt := 17) hx hb dX12_in_3 (by decide) (fun c3 => ?_) (fun c3 => ?_)
  · have f3 := (show ip0 < ip1 from y_lt hz0 hz1 c3)
    have r3a : ir ip0 (-9223372036854775808) 9223372036854775806 := ir_lta f3 (rl_z hz0) (rl_z hz1) (by decide)
    have r3b : ir ip1 (-9223372036854775807) 9223372036854775807 := ir_ltb f3 (rl_z hz0) (rl_z hz1) (by decide)
    refine lv_iconst (v := 0) hx hb dX12_in_17 (by decide) ?_
    subst hQ
    exact W.zret (v := 0) hx hb hr rfl (fun t ht hW => ⟨⟨0, (), rfl, (Or.inr rfl), trivial⟩, hS.F ht⟩) hS.2.2 dX12_in_18
  have f3 := (show ip1 ≤ ip0 from y_nlt hz0 hz1 c3)
  refine lv_lload_n hx hb dX12_in_6 rfl (lv_at hl 0 rfl) ?_
  refine lv_lload hx hb dX12_in_7 (lv_at hl 2 rfl) ?_
  refine W.lcmp hx hb dX12_in_9 ?_
  refine lv_if_gt (tgt := 17) hx hb dX12_in_10 (by decide) (fun c10 => ?_) (fun c10 => ?_)
  rotate_left 1
  · have f10 := (show ip0 ≤ ip2 from y_ngt hz0 hz2 c10)
    refine lv_iconst (v := 1) hx hb dX12_in_13 (by decide) ?_
    refine lv_goto (tgt := 18) hx hb dX12_in_14 (by decide) ?_
    subst hQ
    exact W.zret (v := 1) hx hb hr rfl (fun t ht hW => ⟨⟨1, (), rfl, (Or.inl ⟨rfl, (by first | omega | decide), (by first | omega | decide)⟩), trivial⟩, hS.F ht⟩) hS.2.2 dX12_in_18
  have f10 := (show ip2 < ip0 from y_gt hz0 hz2 c10)
  have r10a : ir ip0 (-9223372036854775807) 9223372036854775807 := ir_ltb f10 (rl_z hz2) (rl_z hz0) (by decide)
  have r10b : ir ip2 (-9223372036854775808) 9223372036854775806 := ir_lta f10 (rl_z hz2) (rl_z hz0) (by decide)
  refine lv_iconst (v := 0) hx hb dX12_in_17 (by decide) ?_
  subst hQ
  exact W.zret (v := 0) hx hb hr rfl (fun t ht hW => ⟨⟨0, (), rfl, (Or.inr rfl), trivial⟩, hS.F ht⟩) hS.2.2 dX12_in_18
def v_X12_isSlot : List Cond := .code yX12_isSlot cX12_isSlot 1 (some .boolean) :: (([.constantLong RX12 110 (3), .methodLink RX12 112 yX12_in, .static yX12_in, .initialized RX12] : List Cond) ++ (v_X12_in ++ ([] : List Cond)))
theorem good_v_X12_isSlot : v_X12_isSlot.all goodWord = true := ga_c (by decide +kernel) (ga_a (by decide +kernel) (ga_a good_v_X12_in rfl))
set_option maxHeartbeats 4000000 in
set_option maxRecDepth 100000 in
theorem q_X12_isSlot (l : Launch) (g : va_G) (cI cJ cB cZ cL : ClassId) (p0 : Int32) (sz : Nat)  : Met l yX12_isSlot v_X12_isSlot ({ frames := 1, cells := 0, slots := 0, locals := 25 }) (va_Pc [.int p0] (pRO g (tyT cI cJ cB cZ cL) [] sz)) (va_Qi (fun (r : Int32) (u : Unit) => ((r = 1 ∧ 0 ≤ p0.toInt ∧ p0.toInt ≤ 3) ∨ (r = 0))) (fun (_ : Unit) (_ : State) => True) (va_A [] sz)) 0 0 (va_A [] sz) := by
  refine Met.ofW (cc := cX12_isSlot) (maxL := 1) (ret := (some .boolean)) (by decide) rfl ?_
  intro p e s mth args below meth c s₁ B hml hv
  obtain ⟨rfl, hsz, hP, hK⟩ := hv
  have hx := B.exec
  have hb := B.bytes
  have hr := B.returns
  have hts := atoms_spec (ws := v_X12_isSlot) B.pre
  have hown : s.vm.findClass RX12 = some mth.cls := findClass_of_methodNamed B.named
  have hlocks := B.notSynchronized
  clear B
  subst hsz
  generalize hAe : (va_A [] s.heap.size) = A
  have hA : ∀ q : Nat, s.heap.size ≤ q → A q := fun q h => by rw [← hAe]; exact Or.inr h
  have hS : va_S A s.heap s.heap [] := va_S.rf
  have hl := lv_entry ([.int p0]) (n := 1) (Nat.le_of_ble_eq_true rfl)
  rw [lg_entry_eq]
  generalize (lg_sl ([.int p0]) ++ List.replicate (1 - (lg_sl ([.int p0])).length) Slot.unset).toArray = ls at hl ⊢
  generalize ([.int p0] : List Value).toArray = av at hts ⊢
  generalize hQ : MQ below _ av s _ _ A = QQ
  have hl : lv_has ls 1 [(0, .int p0)] := hl
  have hP : va_P g vwCl [] s.heap := hP
  refine lv_iload_n hx hb dX12_isSlot_0 rfl (lv_at hl 0 rfl) ?_
  refine lv_i2l (v := p0.toInt64) hx hb dX12_isSlot_1 rfl ?_
  refine lv_lconst (v := 0) hx hb dX12_isSlot_2 (by decide) ?_
  refine lv_ldc2 (v := 3) hx hb hown (hts (.constantLong RX12 110 (3)) (List.mem_cons_of_mem _ (List.mem_append_left _ (List.mem_of_getElem? (i := 0) rfl)))) dX12_isSlot_3 ?_
  refine ro_i (va_runS (As := [.long p0.toInt64, .long 0, .long 3]) (rest := []) ⟨hx, hb, hml, hown, hts⟩ (q_X12_in l g cI cJ cB cZ cL p0.toInt64 p0.toInt 0 0 3 3 s.heap.size (z_i2l rfl) rfl rfl) (va_cwS 3 hts (goodIn_app (g_3 (List.mem_cons_of_mem _ (List.mem_append_left _ (List.mem_of_getElem? (i := 1) rfl))) (List.mem_cons_of_mem _ (List.mem_append_left _ (List.mem_of_getElem? (i := 2) rfl))) (List.mem_cons_of_mem _ (List.mem_append_left _ (List.mem_of_getElem? (i := 3) rfl))) (by decide +kernel)) (goodIn_sub (fun _ h => List.mem_cons_of_mem _ (List.mem_append_right _ (List.mem_append_left _ h))) good_v_X12_in)) rfl rfl rfl (by decide +kernel) ⟨Nat.le_of_ble_eq_true rfl, Nat.le_of_ble_eq_true rfl⟩) (ps_RO (wc := []) hK hP [] rfl) rfl rfl hl.1 rfl (lv_room (Nat.le_of_ble_eq_true rfl)) dX12_isSlot_6 ⟨Nat.le_of_ble_eq_true rfl, Nat.le_of_ble_eq_true rfl⟩) hS hA hP (fun r6 u6 H locs hw6 hP hS => ?_)
  have hw6_0 := hw6
  rcases hw6_0 with ⟨er6, fc6_0, fc6_1⟩ | er6
  rotate_left 1
  · subst er6
    subst hQ
    exact W.zret (v := 0) hx hb hr rfl (fun t ht hW => ⟨⟨0, (), rfl, (Or.inr rfl), trivial⟩, hS.F ht⟩) hS.2.2 dX12_isSlot_9
  subst er6
  have fc6_0 : 0 ≤ p0.toInt := fc6_0
  have r6_0b : ir p0.toInt 0 2147483647 := ir_leb fc6_0 (ir_c 0) (rg_all p0) (by decide)
  have fc6_1 : p0.toInt ≤ 3 := fc6_1
  have r6_1a : ir p0.toInt 0 3 := ir_lea fc6_1 r6_0b (ir_c 3) (by decide)
  subst hQ
  exact W.zret (v := 1) hx hb hr rfl (fun t ht hW => ⟨⟨1, (), rfl, (Or.inl ⟨rfl, (by first | omega | decide), (by first | omega | decide)⟩), trivial⟩, hS.F ht⟩) hS.2.2 dX12_isSlot_9
def v_X12_isSide : List Cond := .code yX12_isSide cX12_isSide 1 (some .boolean) :: (([.methodLink RX12 112 yX12_in, .static yX12_in, .initialized RX12] : List Cond) ++ (v_X12_in ++ ([] : List Cond)))
theorem good_v_X12_isSide : v_X12_isSide.all goodWord = true := ga_c (by decide +kernel) (ga_a (by decide +kernel) (ga_a good_v_X12_in rfl))
set_option maxHeartbeats 4000000 in
set_option maxRecDepth 100000 in
theorem q_X12_isSide (l : Launch) (g : va_G) (cI cJ cB cZ cL : ClassId) (p0 : Int32) (sz : Nat)  : Met l yX12_isSide v_X12_isSide ({ frames := 1, cells := 0, slots := 0, locals := 25 }) (va_Pc [.int p0] (pRO g (tyT cI cJ cB cZ cL) [] sz)) (va_Qi (fun (r : Int32) (u : Unit) => ((r = 1 ∧ 0 ≤ p0.toInt ∧ p0.toInt ≤ 1) ∨ (r = 0))) (fun (_ : Unit) (_ : State) => True) (va_A [] sz)) 0 0 (va_A [] sz) := by
  refine Met.ofW (cc := cX12_isSide) (maxL := 1) (ret := (some .boolean)) (by decide) rfl ?_
  intro p e s mth args below meth c s₁ B hml hv
  obtain ⟨rfl, hsz, hP, hK⟩ := hv
  have hx := B.exec
  have hb := B.bytes
  have hr := B.returns
  have hts := atoms_spec (ws := v_X12_isSide) B.pre
  have hown : s.vm.findClass RX12 = some mth.cls := findClass_of_methodNamed B.named
  have hlocks := B.notSynchronized
  clear B
  subst hsz
  generalize hAe : (va_A [] s.heap.size) = A
  have hA : ∀ q : Nat, s.heap.size ≤ q → A q := fun q h => by rw [← hAe]; exact Or.inr h
  have hS : va_S A s.heap s.heap [] := va_S.rf
  have hl := lv_entry ([.int p0]) (n := 1) (Nat.le_of_ble_eq_true rfl)
  rw [lg_entry_eq]
  generalize (lg_sl ([.int p0]) ++ List.replicate (1 - (lg_sl ([.int p0])).length) Slot.unset).toArray = ls at hl ⊢
  generalize ([.int p0] : List Value).toArray = av at hts ⊢
  generalize hQ : MQ below _ av s _ _ A = QQ
  have hl : lv_has ls 1 [(0, .int p0)] := hl
  have hP : va_P g vwCl [] s.heap := hP
  refine lv_iload_n hx hb dX12_isSide_0 rfl (lv_at hl 0 rfl) ?_
  refine lv_i2l (v := p0.toInt64) hx hb dX12_isSide_1 rfl ?_
  refine lv_lconst (v := 0) hx hb dX12_isSide_2 (by decide) ?_
  refine lv_lconst (v := 1) hx hb dX12_isSide_3 (by decide) ?_
  refine ro_i (va_runS (As := [.long p0.toInt64, .long 0, .long 1]) (rest := []) ⟨hx, hb, hml, hown, hts⟩ (q_X12_in l g cI cJ cB cZ cL p0.toInt64 p0.toInt 0 0 1 1 s.heap.size (z_i2l rfl) rfl rfl) (va_cwS 3 hts (goodIn_app (g_3 (List.mem_cons_of_mem _ (List.mem_append_left _ (List.mem_of_getElem? (i := 0) rfl))) (List.mem_cons_of_mem _ (List.mem_append_left _ (List.mem_of_getElem? (i := 1) rfl))) (List.mem_cons_of_mem _ (List.mem_append_left _ (List.mem_of_getElem? (i := 2) rfl))) (by decide +kernel)) (goodIn_sub (fun _ h => List.mem_cons_of_mem _ (List.mem_append_right _ (List.mem_append_left _ h))) good_v_X12_in)) rfl rfl rfl (by decide +kernel) ⟨Nat.le_of_ble_eq_true rfl, Nat.le_of_ble_eq_true rfl⟩) (ps_RO (wc := []) hK hP [] rfl) rfl rfl hl.1 rfl (lv_room (Nat.le_of_ble_eq_true rfl)) dX12_isSide_4 ⟨Nat.le_of_ble_eq_true rfl, Nat.le_of_ble_eq_true rfl⟩) hS hA hP (fun r4 u4 H locs hw4 hP hS => ?_)
  have hw4_0 := hw4
  rcases hw4_0 with ⟨er4, fc4_0, fc4_1⟩ | er4
  rotate_left 1
  · subst er4
    subst hQ
    exact W.zret (v := 0) hx hb hr rfl (fun t ht hW => ⟨⟨0, (), rfl, (Or.inr rfl), trivial⟩, hS.F ht⟩) hS.2.2 dX12_isSide_7
  subst er4
  have fc4_0 : 0 ≤ p0.toInt := fc4_0
  have r4_0b : ir p0.toInt 0 2147483647 := ir_leb fc4_0 (ir_c 0) (rg_all p0) (by decide)
  have fc4_1 : p0.toInt ≤ 1 := fc4_1
  have r4_1a : ir p0.toInt 0 1 := ir_lea fc4_1 r4_0b (ir_c 1) (by decide)
  subst hQ
  exact W.zret (v := 1) hx hb hr rfl (fun t ht hW => ⟨⟨1, (), rfl, (Or.inl ⟨rfl, (by first | omega | decide), (by first | omega | decide)⟩), trivial⟩, hS.F ht⟩) hS.2.2 dX12_isSide_7
def v_X12_isRule : List Cond := .code yX12_isRule cX12_isRule 1 (some .boolean) :: (([.constantLong RX12 271 (31), .methodLink RX12 112 yX12_in, .static yX12_in, .initialized RX12] : List Cond) ++ (v_X12_in ++ ([] : List Cond)))
theorem good_v_X12_isRule : v_X12_isRule.all goodWord = true := ga_c (by decide +kernel) (ga_a (by decide +kernel) (ga_a good_v_X12_in rfl))
set_option maxHeartbeats 4000000 in
set_option maxRecDepth 100000 in
theorem q_X12_isRule (l : Launch) (g : va_G) (cI cJ cB cZ cL : ClassId) (p0 : Int32) (sz : Nat)  : Met l yX12_isRule v_X12_isRule ({ frames := 1, cells := 0, slots := 0, locals := 25 }) (va_Pc [.int p0] (pRO g (tyT cI cJ cB cZ cL) [] sz)) (va_Qi (fun (r : Int32) (u : Unit) => ((r = 1 ∧ 0 ≤ p0.toInt ∧ p0.toInt ≤ 31) ∨ (r = 0))) (fun (_ : Unit) (_ : State) => True) (va_A [] sz)) 0 0 (va_A [] sz) := by
  refine Met.ofW (cc := cX12_isRule) (maxL := 1) (ret := (some .boolean)) (by decide) rfl ?_
  intro p e s mth args below meth c s₁ B hml hv
  obtain ⟨rfl, hsz, hP, hK⟩ := hv
  have hx := B.exec
  have hb := B.bytes
  have hr := B.returns
  have hts := atoms_spec (ws := v_X12_isRule) B.pre
  have hown : s.vm.findClass RX12 = some mth.cls := findClass_of_methodNamed B.named
  have hlocks := B.notSynchronized
  clear B
  subst hsz
  generalize hAe : (va_A [] s.heap.size) = A
  have hA : ∀ q : Nat, s.heap.size ≤ q → A q := fun q h => by rw [← hAe]; exact Or.inr h
  have hS : va_S A s.heap s.heap [] := va_S.rf
  have hl := lv_entry ([.int p0]) (n := 1) (Nat.le_of_ble_eq_true rfl)
  rw [lg_entry_eq]
  generalize (lg_sl ([.int p0]) ++ List.replicate (1 - (lg_sl ([.int p0])).length) Slot.unset).toArray = ls at hl ⊢
  generalize ([.int p0] : List Value).toArray = av at hts ⊢
  generalize hQ : MQ below _ av s _ _ A = QQ
  have hl : lv_has ls 1 [(0, .int p0)] := hl
  have hP : va_P g vwCl [] s.heap := hP
  refine lv_iload_n hx hb dX12_isRule_0 rfl (lv_at hl 0 rfl) ?_
  refine lv_i2l (v := p0.toInt64) hx hb dX12_isRule_1 rfl ?_
  refine lv_lconst (v := 0) hx hb dX12_isRule_2 (by decide) ?_
  refine lv_ldc2 (v := 31) hx hb hown (hts (.constantLong RX12 271 (31)) (List.mem_cons_of_mem _ (List.mem_append_left _ (List.mem_of_getElem? (i := 0) rfl)))) dX12_isRule_3 ?_
  refine ro_i (va_runS (As := [.long p0.toInt64, .long 0, .long 31]) (rest := []) ⟨hx, hb, hml, hown, hts⟩ (q_X12_in l g cI cJ cB cZ cL p0.toInt64 p0.toInt 0 0 31 31 s.heap.size (z_i2l rfl) rfl rfl) (va_cwS 3 hts (goodIn_app (g_3 (List.mem_cons_of_mem _ (List.mem_append_left _ (List.mem_of_getElem? (i := 1) rfl))) (List.mem_cons_of_mem _ (List.mem_append_left _ (List.mem_of_getElem? (i := 2) rfl))) (List.mem_cons_of_mem _ (List.mem_append_left _ (List.mem_of_getElem? (i := 3) rfl))) (by decide +kernel)) (goodIn_sub (fun _ h => List.mem_cons_of_mem _ (List.mem_append_right _ (List.mem_append_left _ h))) good_v_X12_in)) rfl rfl rfl (by decide +kernel) ⟨Nat.le_of_ble_eq_true rfl, Nat.le_of_ble_eq_true rfl⟩) (ps_RO (wc := []) hK hP [] rfl) rfl rfl hl.1 rfl (lv_room (Nat.le_of_ble_eq_true rfl)) dX12_isRule_6 ⟨Nat.le_of_ble_eq_true rfl, Nat.le_of_ble_eq_true rfl⟩) hS hA hP (fun r6 u6 H locs hw6 hP hS => ?_)
  have hw6_0 := hw6
  rcases hw6_0 with ⟨er6, fc6_0, fc6_1⟩ | er6
  rotate_left 1
  · subst er6
    subst hQ
    exact W.zret (v := 0) hx hb hr rfl (fun t ht hW => ⟨⟨0, (), rfl, (Or.inr rfl), trivial⟩, hS.F ht⟩) hS.2.2 dX12_isRule_9
  subst er6
  have fc6_0 : 0 ≤ p0.toInt := fc6_0
  have r6_0b : ir p0.toInt 0 2147483647 := ir_leb fc6_0 (ir_c 0) (rg_all p0) (by decide)
  have fc6_1 : p0.toInt ≤ 31 := fc6_1
  have r6_1a : ir p0.toInt 0 31 := ir_lea fc6_1 r6_0b (ir_c 31) (by decide)
  subst hQ
  exact W.zret (v := 1) hx hb hr rfl (fun t ht hW => ⟨⟨1, (), rfl, (Or.inl ⟨rfl, (by first | omega | decide), (by first | omega | decide)⟩), trivial⟩, hS.F ht⟩) hS.2.2 dX12_isRule_9
def v_X12_isSeed : List Cond := .code yX12_isSeed cX12_isSeed 1 (some .boolean) :: (([.constantLong RX12 528 (2000000000), .methodLink RX12 112 yX12_in, .static yX12_in, .initialized RX12] : List Cond) ++ (v_X12_in ++ ([] : List Cond)))
theorem good_v_X12_isSeed : v_X12_isSeed.all goodWord = true := ga_c (by decide +kernel) (ga_a (by decide +kernel) (ga_a good_v_X12_in rfl))
set_option maxHeartbeats 4000000 in
set_option maxRecDepth 100000 in
theorem q_X12_isSeed (l : Launch) (g : va_G) (cI cJ cB cZ cL : ClassId) (p0 : Int32) (sz : Nat)  : Met l yX12_isSeed v_X12_isSeed ({ frames := 1, cells := 0, slots := 0, locals := 25 }) (va_Pc [.int p0] (pRO g (tyT cI cJ cB cZ cL) [] sz)) (va_Qi (fun (r : Int32) (u : Unit) => ((r = 1 ∧ 0 ≤ p0.toInt ∧ p0.toInt ≤ 2000000000) ∨ (r = 0))) (fun (_ : Unit) (_ : State) => True) (va_A [] sz)) 0 0 (va_A [] sz) := by
  refine Met.ofW (cc := cX12_isSeed) (maxL := 1) (ret := (some .boolean)) (by decide) rfl ?_
  intro p e s mth args below meth c s₁ B hml hv
  obtain ⟨rfl, hsz, hP, hK⟩ := hv
  have hx := B.exec
  have hb := B.bytes
  have hr := B.returns
  have hts := atoms_spec (ws := v_X12_isSeed) B.pre
  have hown : s.vm.findClass RX12 = some mth.cls := findClass_of_methodNamed B.named
  have hlocks := B.notSynchronized
  clear B
  subst hsz
  generalize hAe : (va_A [] s.heap.size) = A
  have hA : ∀ q : Nat, s.heap.size ≤ q → A q := fun q h => by rw [← hAe]; exact Or.inr h
  have hS : va_S A s.heap s.heap [] := va_S.rf
  have hl := lv_entry ([.int p0]) (n := 1) (Nat.le_of_ble_eq_true rfl)
  rw [lg_entry_eq]
  generalize (lg_sl ([.int p0]) ++ List.replicate (1 - (lg_sl ([.int p0])).length) Slot.unset).toArray = ls at hl ⊢
  generalize ([.int p0] : List Value).toArray = av at hts ⊢
  generalize hQ : MQ below _ av s _ _ A = QQ
  have hl : lv_has ls 1 [(0, .int p0)] := hl
  have hP : va_P g vwCl [] s.heap := hP
  refine lv_iload_n hx hb dX12_isSeed_0 rfl (lv_at hl 0 rfl) ?_
  refine lv_i2l (v := p0.toInt64) hx hb dX12_isSeed_1 rfl ?_
  refine lv_lconst (v := 0) hx hb dX12_isSeed_2 (by decide) ?_
  refine lv_ldc2 (v := 2000000000) hx hb hown (hts (.constantLong RX12 528 (2000000000)) (List.mem_cons_of_mem _ (List.mem_append_left _ (List.mem_of_getElem? (i := 0) rfl)))) dX12_isSeed_3 ?_
  refine ro_i (va_runS (As := [.long p0.toInt64, .long 0, .long 2000000000]) (rest := []) ⟨hx, hb, hml, hown, hts⟩ (q_X12_in l g cI cJ cB cZ cL p0.toInt64 p0.toInt 0 0 2000000000 2000000000 s.heap.size (z_i2l rfl) rfl rfl) (va_cwS 3 hts (goodIn_app (g_3 (List.mem_cons_of_mem _ (List.mem_append_left _ (List.mem_of_getElem? (i := 1) rfl))) (List.mem_cons_of_mem _ (List.mem_append_left _ (List.mem_of_getElem? (i := 2) rfl))) (List.mem_cons_of_mem _ (List.mem_append_left _ (List.mem_of_getElem? (i := 3) rfl))) (by decide +kernel)) (goodIn_sub (fun _ h => List.mem_cons_of_mem _ (List.mem_append_right _ (List.mem_append_left _ h))) good_v_X12_in)) rfl rfl rfl (by decide +kernel) ⟨Nat.le_of_ble_eq_true rfl, Nat.le_of_ble_eq_true rfl⟩) (ps_RO (wc := []) hK hP [] rfl) rfl rfl hl.1 rfl (lv_room (Nat.le_of_ble_eq_true rfl)) dX12_isSeed_6 ⟨Nat.le_of_ble_eq_true rfl, Nat.le_of_ble_eq_true rfl⟩) hS hA hP (fun r6 u6 H locs hw6 hP hS => ?_)
  have hw6_0 := hw6
  rcases hw6_0 with ⟨er6, fc6_0, fc6_1⟩ | er6
  rotate_left 1
  · subst er6
    subst hQ
    exact W.zret (v := 0) hx hb hr rfl (fun t ht hW => ⟨⟨0, (), rfl, (Or.inr rfl), trivial⟩, hS.F ht⟩) hS.2.2 dX12_isSeed_9
  subst er6
  have fc6_0 : 0 ≤ p0.toInt := fc6_0
  have r6_0b : ir p0.toInt 0 2147483647 := ir_leb fc6_0 (ir_c 0) (rg_all p0) (by decide)
  have fc6_1 : p0.toInt ≤ 2000000000 := fc6_1
  have r6_1a : ir p0.toInt 0 2000000000 := ir_lea fc6_1 r6_0b (ir_c 2000000000) (by decide)
  subst hQ
  exact W.zret (v := 1) hx hb hr rfl (fun t ht hW => ⟨⟨1, (), rfl, (Or.inl ⟨rfl, (by first | omega | decide), (by first | omega | decide)⟩), trivial⟩, hS.F ht⟩) hS.2.2 dX12_isSeed_9
def v_X12_isBit : List Cond := .code yX12_isBit cX12_isBit 2 (some .boolean) :: (([] : List Cond) ++ ([] : List Cond))
theorem good_v_X12_isBit : v_X12_isBit.all goodWord = true := ga_c (by decide +kernel) (ga_a (by decide +kernel) rfl)
set_option maxHeartbeats 4000000 in
set_option maxRecDepth 100000 in
theorem q_X12_isBit (l : Launch) (g : va_G) (cI cJ cB cZ cL : ClassId) (p0 : Int32) (p1 : Int32) (sz : Nat)  : Met l yX12_isBit v_X12_isBit ({ frames := 0, cells := 0, slots := 0, locals := 0 }) (va_Pc [.int p0, .int p1] (pRO g (tyT cI cJ cB cZ cL) [] sz)) (va_Qi (fun (r : Int32) (u : Unit) => (ir r.toInt 0 1)) (fun (_ : Unit) (_ : State) => True) (va_A [] sz)) 0 0 (va_A [] sz) := by
  refine Met.ofW (cc := cX12_isBit) (maxL := 2) (ret := (some .boolean)) (by decide) rfl ?_
  intro p e s mth args below meth c s₁ B hml hv
  obtain ⟨rfl, hsz, hP, hK⟩ := hv
  have hx := B.exec
  have hb := B.bytes
  have hr := B.returns
  have hts := atoms_spec (ws := v_X12_isBit) B.pre
  have hown : s.vm.findClass RX12 = some mth.cls := findClass_of_methodNamed B.named
  have hlocks := B.notSynchronized
  clear B
  subst hsz
  generalize hAe : (va_A [] s.heap.size) = A
  have hA : ∀ q : Nat, s.heap.size ≤ q → A q := fun q h => by rw [← hAe]; exact Or.inr h
  have hS : va_S A s.heap s.heap [] := va_S.rf
  have hl := lv_entry ([.int p0, .int p1]) (n := 2) (Nat.le_of_ble_eq_true rfl)
  rw [lg_entry_eq]
  generalize (lg_sl ([.int p0, .int p1]) ++ List.replicate (2 - (lg_sl ([.int p0, .int p1])).length) Slot.unset).toArray = ls at hl ⊢
  generalize ([.int p0, .int p1] : List Value).toArray = av at hts ⊢
  generalize hQ : MQ below _ av s _ _ A = QQ
  have hl : lv_has ls 2 [(0, .int p0), (1, .int p1)] := hl
  have hP : va_P g vwCl [] s.heap := hP
  refine lv_iload_n hx hb dX12_isBit_0 rfl (lv_at hl 0 rfl) ?_
  refine lv_iload_n hx hb dX12_isBit_1 rfl (lv_at hl 1 rfl) ?_
  refine lv_ishr hx hb dX12_isBit_2 ?_
  refine lv_topi (fun y2 e2 => ?_)
  refine lv_iconst (v := 1) hx hb dX12_isBit_3 (by decide) ?_
  refine lv_iand hx hb dX12_isBit_4 ?_
  refine lv_topi (fun y4 e4 => ?_)
  have r4 : ir y4.toInt 0 1 := by rw [e4]; exact an_y rfl (ir_c 1) (by decide)
  refine lv_iconst (v := 1) hx hb dX12_isBit_5 (by decide) ?_
  refine lv_icmp_ne (tgt := 13) hx hb dX12_isBit_6 (by decide) (fun c6 => ?_) (fun c6 => ?_)
  · have f6 := (show y4.toInt ≠ 1 from z_ne rfl rfl c6)
    have r6a : ir y4.toInt 0 0 := ir_neh f6 r4 (by decide) (by decide)
    refine lv_iconst (v := 0) hx hb dX12_isBit_13 (by decide) ?_
    subst hQ
    exact W.zret (v := 0) hx hb hr rfl (fun t ht hW => ⟨⟨0, (), rfl, (show ir (0 : Int32).toInt 0 1 by decide), trivial⟩, hS.F ht⟩) hS.2.2 dX12_isBit_14
  have f6 := (show y4.toInt = 1 from z_eq rfl rfl c6)
  have r6a : ir y4.toInt 1 1 := ir_eqa f6 r4 (ir_c 1) (by decide) (by decide)
  refine lv_iconst (v := 1) hx hb dX12_isBit_9 (by decide) ?_
  refine lv_goto (tgt := 14) hx hb dX12_isBit_10 (by decide) ?_
  subst hQ
  exact W.zret (v := 1) hx hb hr rfl (fun t ht hW => ⟨⟨1, (), rfl, (show ir (1 : Int32).toInt 0 1 by decide), trivial⟩, hS.F ht⟩) hS.2.2 dX12_isBit_14
def v_X12_cut : List Cond := .code yX12_cut cX12_cut 3 (some .long) :: (([] : List Cond) ++ ([] : List Cond))
theorem good_v_X12_cut : v_X12_cut.all goodWord = true := ga_c (by decide +kernel) (ga_a (by decide +kernel) rfl)
set_option maxHeartbeats 4000000 in
set_option maxRecDepth 100000 in
theorem q_X12_cut (l : Launch) (g : va_G) (cI cJ cB cZ cL : ClassId) (p0 : Int64) (p1 : Int32) (sz : Nat)  : Met l yX12_cut v_X12_cut ({ frames := 0, cells := 0, slots := 0, locals := 0 }) (va_Pc [.long p0, .int p1] (pRO g (tyT cI cJ cB cZ cL) [] sz)) (va_Ql (fun (r : Int64) (u : Unit) => True) (fun (_ : Unit) (_ : State) => True) (va_A [] sz)) 0 0 (va_A [] sz) := by
  refine Met.ofW (cc := cX12_cut) (maxL := 3) (ret := (some .long)) (by decide) rfl ?_
  intro p e s mth args below meth c s₁ B hml hv
  obtain ⟨rfl, hsz, hP, hK⟩ := hv
  have hx := B.exec
  have hb := B.bytes
  have hr := B.returns
  have hts := atoms_spec (ws := v_X12_cut) B.pre
  have hown : s.vm.findClass RX12 = some mth.cls := findClass_of_methodNamed B.named
  have hlocks := B.notSynchronized
  clear B
  subst hsz
  generalize hAe : (va_A [] s.heap.size) = A
  have hA : ∀ q : Nat, s.heap.size ≤ q → A q := fun q h => by rw [← hAe]; exact Or.inr h
  have hS : va_S A s.heap s.heap [] := va_S.rf
  have hl := lv_entry ([.long p0, .int p1]) (n := 3) (Nat.le_of_ble_eq_true rfl)
  rw [lg_entry_eq]
  generalize (lg_sl ([.long p0, .int p1]) ++ List.replicate (3 - (lg_sl ([.long p0, .int p1])).length) Slot.unset).toArray = ls at hl ⊢
  generalize ([.long p0, .int p1] : List Value).toArray = av at hts ⊢
  generalize hQ : MQ below _ av s _ _ A = QQ
  have hl : lv_has ls 3 [(0, .long p0), (2, .int p1)] := hl
  have hP : va_P g vwCl [] s.heap := hP
  refine lv_iload_n hx hb dX12_cut_0 rfl (lv_at hl 1 rfl) ?_
  refine lv_if_ne (tgt := 11) hx hb dX12_cut_1 (by decide) (fun c1 => ?_) (fun c1 => ?_)
  rotate_left 1
  · have f1 := (show p1.toInt = 0 from z_eq rfl rfl c1)
    have r1a : ir p1.toInt 0 0 := ir_eqa f1 (rg_all p1) (ir_c 0) (by decide) (by decide)
    refine lv_lload_n hx hb dX12_cut_4 rfl (lv_at hl 0 rfl) ?_
    refine lv_l2i (v := p0.toInt32) hx hb dX12_cut_5 rfl ?_
    refine lv_topi (fun y5 e5 => ?_)
    refine lv_i2b (v := y5.toInt8.toInt32) hx hb dX12_cut_6 rfl ?_
    refine lv_topi (fun y6 e6 => ?_)
    refine lv_i2l (v := y6.toInt64) hx hb dX12_cut_7 rfl ?_
    refine lv_goto (tgt := 35) hx hb dX12_cut_8 (by decide) ?_
    subst hQ
    exact W.lret (v := y6.toInt64) hx hb hr (fun t ht hW => ⟨⟨y6.toInt64, (), rfl, trivial, trivial⟩, hS.F ht⟩) hS.2.2 dX12_cut_35
  have f1 := (show p1.toInt ≠ 0 from z_ne rfl rfl c1)
  refine lv_iload_n hx hb dX12_cut_11 rfl (lv_at hl 1 rfl) ?_
  refine lv_iconst (v := 1) hx hb dX12_cut_12 (by decide) ?_
  refine lv_icmp_ne (tgt := 23) hx hb dX12_cut_13 (by decide) (fun c13 => ?_) (fun c13 => ?_)
  rotate_left 1
  · have f13 := (show p1.toInt = 1 from z_eq rfl rfl c13)
    have r13a : ir p1.toInt 1 1 := ir_eqa f13 (rg_all p1) (ir_c 1) (by decide) (by decide)
    refine lv_lload_n hx hb dX12_cut_16 rfl (lv_at hl 0 rfl) ?_
    refine lv_l2i (v := p0.toInt32) hx hb dX12_cut_17 rfl ?_
    refine lv_topi (fun y17 e17 => ?_)
    refine lv_i2s (v := y17.toInt16.toInt32) hx hb dX12_cut_18 rfl ?_
    refine lv_topi (fun y18 e18 => ?_)
    refine lv_i2l (v := y18.toInt64) hx hb dX12_cut_19 rfl ?_
    refine lv_goto (tgt := 35) hx hb dX12_cut_20 (by decide) ?_
    subst hQ
    exact W.lret (v := y18.toInt64) hx hb hr (fun t ht hW => ⟨⟨y18.toInt64, (), rfl, trivial, trivial⟩, hS.F ht⟩) hS.2.2 dX12_cut_35
  have f13 := (show p1.toInt ≠ 1 from z_ne rfl rfl c13)
  refine lv_iload_n hx hb dX12_cut_23 rfl (lv_at hl 1 rfl) ?_
  refine lv_iconst (v := 2) hx hb dX12_cut_24 (by decide) ?_
  refine lv_icmp_ne (tgt := 34) hx hb dX12_cut_25 (by decide) (fun c25 => ?_) (fun c25 => ?_)
  · have f25 := (show p1.toInt ≠ 2 from z_ne rfl rfl c25)
    refine lv_lload_n hx hb dX12_cut_34 rfl (lv_at hl 0 rfl) ?_
    subst hQ
    exact W.lret (v := p0) hx hb hr (fun t ht hW => ⟨⟨p0, (), rfl, trivial, trivial⟩, hS.F ht⟩) hS.2.2 dX12_cut_35
  have f25 := (show p1.toInt = 2 from z_eq rfl rfl c25)
  have r25a : ir p1.toInt 2 2 := ir_eqa f25 (rg_all p1) (ir_c 2) (by decide) (by decide)
  refine lv_lload_n hx hb dX12_cut_28 rfl (lv_at hl 0 rfl) ?_
  refine lv_l2i (v := p0.toInt32) hx hb dX12_cut_29 rfl ?_
  refine lv_topi (fun y29 e29 => ?_)
  refine lv_i2l (v := y29.toInt64) hx hb dX12_cut_30 rfl ?_
  refine lv_goto (tgt := 35) hx hb dX12_cut_31 (by decide) ?_
  subst hQ
  exact W.lret (v := y29.toInt64) hx hb hr (fun t ht hW => ⟨⟨y29.toInt64, (), rfl, trivial, trivial⟩, hS.F ht⟩) hS.2.2 dX12_cut_35
def v_X12_row : List Cond := .code yX12_row cX12_row 5 (some .int) :: (([.fieldLink RX12 107 "CardsAtYuleModel" "thrown" "I", .methodLink RX12 116 yX12_isSlot, .static yX12_isSlot, .initialized RX12, .constantLong RX12 110 (3), .methodLink RX12 112 yX12_in, .static yX12_in, .fieldLink RX12 7 "CardsAtYuleModel" "width" "[I", .fieldLink RX12 13 "CardsAtYuleModel" "many" "[I", .fieldLink RX12 16 "CardsAtYuleModel" "cells" "[J"] : List Cond) ++ (v_X12_isSlot ++ (v_X12_in ++ (wsX120 ++ ([] : List Cond)))))
theorem good_v_X12_row : v_X12_row.all goodWord = true := ga_c (by decide +kernel) (ga_a (by decide +kernel) (ga_a good_v_X12_isSlot (ga_a good_v_X12_in (ga_a good_wsX120 rfl))))
set_option maxHeartbeats 4000000 in
set_option maxRecDepth 100000 in
theorem q_X12_row (l : Launch) (g : va_G) (cI cJ cB cZ cL : ClassId) (p0 : Int32) (p1 : Int32) (p2 : Int32) (m : Nat) (m_a : Nat → Nat) (m_thrown : Int32) (m_taped : Int32) (m_at : Int32) (m_token : Int32) (m_place : Int32) (m_value : Int32) (m_word : Int64) (m_bad : Int32) (m_badPlace : Int32) (m_fault : Int32) (m_faultPlace : Int32) (m_willing : Int32) (m_will : Int32) (m_forgot : Int32) (m_isDrawn : Int32) (m_x : Int64) (m_begin : Int32) (m_round : Int32) (m_roundCards : Int32) (m_fate : Int32) (m_any : Int64) (m_bothSend : Int64) (m_meanCards : Int64) (m_bestSum : Int32) (m_fitMany : Int32) (m_fitFirst : Int64) (m_fitSecond : Int64) (m_width_c : Nat → Int32) (m_many_c : Nat → Int32) (m_cells_c : Nat → Int64) (sz : Nat) (hv_m_taped : ir m_taped.toInt 0 1600) (hv_m_at : ir m_at.toInt 0 1600) (hv_m_will : ir m_will.toInt 0 1) (hv_m_isDrawn : ir m_isDrawn.toInt 0 1) (ha_m_many_c : ar m_many_c 4 0 60) : Met l yX12_row v_X12_row ({ frames := 2, cells := 0, slots := 0, locals := 45 }) (va_Pc [.ref m, .int p0, .int p1, .int p2] (pRW g (tyT cI cJ cB cZ cL) [(m, .inr (11, mG m_a m_thrown m_taped m_at m_token m_place m_value m_word m_bad m_badPlace m_fault m_faultPlace m_willing m_will m_forgot m_isDrawn m_x m_begin m_round m_roundCards m_fate m_any m_bothSend m_meanCards m_bestSum m_fitMany m_fitFirst m_fitSecond)), ((m_a 1), .inl (cI, 4, .inl m_width_c)), ((m_a 2), .inl (cI, 4, .inl m_many_c)), ((m_a 3), .inl (cJ, 240, .inr (.inl m_cells_c)))] sz)) (va_Qi (fun (r : Int32) (u : Int32 × (Nat → Int32) × (Nat → Int32) × (Nat → Int64)) => match u with | (n_m_thrown, n_m_width_c, n_m_many_c, n_m_cells_c) => (ir n_m_thrown.toInt 0 0) ∧ (ar n_m_many_c 4 0 60) ∧ (ir r.toInt (-3) 0)) (fun (u : Int32 × (Nat → Int32) × (Nat → Int32) × (Nat → Int64)) (t : State) => bRW g (tyT cI cJ cB cZ cL) (va_A [(m, .inr (11, mG m_a m_thrown m_taped m_at m_token m_place m_value m_word m_bad m_badPlace m_fault m_faultPlace m_willing m_will m_forgot m_isDrawn m_x m_begin m_round m_roundCards m_fate m_any m_bothSend m_meanCards m_bestSum m_fitMany m_fitFirst m_fitSecond)), ((m_a 1), .inl (cI, 4, .inl m_width_c)), ((m_a 2), .inl (cI, 4, .inl m_many_c)), ((m_a 3), .inl (cJ, 240, .inr (.inl m_cells_c)))] sz) (match u with | (n_m_thrown, n_m_width_c, n_m_many_c, n_m_cells_c) => [(m, .inr (11, mG m_a n_m_thrown m_taped m_at m_token m_place m_value m_word m_bad m_badPlace m_fault m_faultPlace m_willing m_will m_forgot m_isDrawn m_x m_begin m_round m_roundCards m_fate m_any m_bothSend m_meanCards m_bestSum m_fitMany m_fitFirst m_fitSecond)), ((m_a 1), .inl (cI, 4, .inl n_m_width_c)), ((m_a 2), .inl (cI, 4, .inl n_m_many_c)), ((m_a 3), .inl (cJ, 240, .inr (.inl n_m_cells_c)))]) t) (va_A [(m, .inr (11, mG m_a m_thrown m_taped m_at m_token m_place m_value m_word m_bad m_badPlace m_fault m_faultPlace m_willing m_will m_forgot m_isDrawn m_x m_begin m_round m_roundCards m_fate m_any m_bothSend m_meanCards m_bestSum m_fitMany m_fitFirst m_fitSecond)), ((m_a 1), .inl (cI, 4, .inl m_width_c)), ((m_a 2), .inl (cI, 4, .inl m_many_c)), ((m_a 3), .inl (cJ, 240, .inr (.inl m_cells_c)))] sz)) 0 0 (va_A [(m, .inr (11, mG m_a m_thrown m_taped m_at m_token m_place m_value m_word m_bad m_badPlace m_fault m_faultPlace m_willing m_will m_forgot m_isDrawn m_x m_begin m_round m_roundCards m_fate m_any m_bothSend m_meanCards m_bestSum m_fitMany m_fitFirst m_fitSecond)), ((m_a 1), .inl (cI, 4, .inl m_width_c)), ((m_a 2), .inl (cI, 4, .inl m_many_c)), ((m_a 3), .inl (cJ, 240, .inr (.inl m_cells_c)))] sz) := by
  refine Met.ofW (cc := cX12_row) (maxL := 5) (ret := (some .int)) (by decide) rfl ?_
  intro p e s mth args below meth c s₁ B hml hv
  obtain ⟨rfl, hsz, hP, hK, hD0⟩ := hv
  have hx := B.exec
  have hb := B.bytes
  have hr := B.returns
  have hts := atoms_spec (ws := v_X12_row) B.pre
  have hown : s.vm.findClass RX12 = some mth.cls := findClass_of_methodNamed B.named
  have hlocks := B.notSynchronized
  clear B
  subst hsz
  have iX12 : ∀ w ∈ wsX120, w ∈ v_X12_row := (fun _ h => List.mem_cons_of_mem _ (List.mem_append_right _ (List.mem_append_right _ (List.mem_append_right _ (List.mem_append_left _ h)))))
  have hD := hD0.self (sz := s.heap.size)
  generalize hAe : (va_A [(m, .inr (11, mG m_a m_thrown m_taped m_at m_token m_place m_value m_word m_bad m_badPlace m_fault m_faultPlace m_willing m_will m_forgot m_isDrawn m_x m_begin m_round m_roundCards m_fate m_any m_bothSend m_meanCards m_bestSum m_fitMany m_fitFirst m_fitSecond)), ((m_a 1), .inl (cI, 4, .inl m_width_c)), ((m_a 2), .inl (cI, 4, .inl m_many_c)), ((m_a 3), .inl (cJ, 240, .inr (.inl m_cells_c)))] s.heap.size) = A at hD ⊢
  have hA : ∀ q : Nat, s.heap.size ≤ q → A q := fun q h => by rw [← hAe]; exact Or.inr h
  have hS : va_S A s.heap s.heap [] := va_S.rf
  have hl := lv_entry ([.ref m, .int p0, .int p1, .int p2]) (n := 5) (Nat.le_of_ble_eq_true rfl)
  rw [lg_entry_eq]
  generalize (lg_sl ([.ref m, .int p0, .int p1, .int p2]) ++ List.replicate (5 - (lg_sl ([.ref m, .int p0, .int p1, .int p2])).length) Slot.unset).toArray = ls at hl ⊢
  generalize ([.ref m, .int p0, .int p1, .int p2] : List Value).toArray = av at hts ⊢
  generalize hQ : MQ below _ av s _ _ A = QQ
  have hl : lv_has ls 5 [(0, .ref m), (1, .int p0), (2, .int p1), (3, .int p2)] := hl
  have hP : va_P g vwCl [(m, .inr (11, mG m_a m_thrown m_taped m_at m_token m_place m_value m_word m_bad m_badPlace m_fault m_faultPlace m_willing m_will m_forgot m_isDrawn m_x m_begin m_round m_roundCards m_fate m_any m_bothSend m_meanCards m_bestSum m_fitMany m_fitFirst m_fitSecond)), ((m_a 1), .inl (cI, 4, .inl m_width_c)), ((m_a 2), .inl (cI, 4, .inl m_many_c)), ((m_a 3), .inl (cJ, 240, .inr (.inl m_cells_c)))] s.heap := hP
  refine lv_aload_n hx hb dX12_row_0 rfl (lv_at hl 0 rfl) ?_
  refine lv_iconst (v := 0) hx hb dX12_row_1 (by decide) ?_
  refine va_put (D := g) (ci := 11) (v := .int 0) (ty := .int) (C := RX12) (T := TX12) (N := 56) hx hb hts iX12 tyX12 tyX12_ok nmX12 hown hK hP hD hS 0 rfl rfl 0 (by decide) (hts (.fieldLink RX12 107 "CardsAtYuleModel" "thrown" "I") (List.mem_cons_of_mem _ (List.mem_append_left _ (List.mem_of_getElem? (i := 0) rfl)))) (fun _ h9 => h9) rfl (by decide +kernel) rfl rfl (Nat.le_of_ble_eq_true rfl) dX12_row_2 (fun H locs hP hD hS => ?_)
  have hP : va_P g vwCl [(m, .inr (11, mG m_a 0 m_taped m_at m_token m_place m_value m_word m_bad m_badPlace m_fault m_faultPlace m_willing m_will m_forgot m_isDrawn m_x m_begin m_round m_roundCards m_fate m_any m_bothSend m_meanCards m_bestSum m_fitMany m_fitFirst m_fitSecond)), ((m_a 1), .inl (cI, 4, .inl m_width_c)), ((m_a 2), .inl (cI, 4, .inl m_many_c)), ((m_a 3), .inl (cJ, 240, .inr (.inl m_cells_c)))] H := hP
  have hD : va_D A [(m, .inr (11, mG m_a 0 m_taped m_at m_token m_place m_value m_word m_bad m_badPlace m_fault m_faultPlace m_willing m_will m_forgot m_isDrawn m_x m_begin m_round m_roundCards m_fate m_any m_bothSend m_meanCards m_bestSum m_fitMany m_fitFirst m_fitSecond)), ((m_a 1), .inl (cI, 4, .inl m_width_c)), ((m_a 2), .inl (cI, 4, .inl m_many_c)), ((m_a 3), .inl (cJ, 240, .inr (.inl m_cells_c)))] := hD
  refine lv_iload_n hx hb dX12_row_5 rfl (lv_at hl 1 rfl) ?_
  refine ro_i (va_runS (As := [.int p0]) (rest := []) ⟨hx, hb, hml, hown, hts⟩ (q_X12_isSlot l g cI cJ cB cZ cL p0 H.size ) (va_cwS 1 hts (goodIn_app (g_3 (List.mem_cons_of_mem _ (List.mem_append_left _ (List.mem_of_getElem? (i := 1) rfl))) (List.mem_cons_of_mem _ (List.mem_append_left _ (List.mem_of_getElem? (i := 2) rfl))) (List.mem_cons_of_mem _ (List.mem_append_left _ (List.mem_of_getElem? (i := 3) rfl))) (by decide +kernel)) (goodIn_sub (fun _ h => List.mem_cons_of_mem _ (List.mem_append_right _ (List.mem_append_left _ h))) good_v_X12_isSlot)) rfl rfl rfl (by decide +kernel) ⟨Nat.le_of_ble_eq_true rfl, Nat.le_of_ble_eq_true rfl⟩) (ps_RO (wc := []) hK hP [] rfl) rfl rfl hl.1 rfl (lv_room (Nat.le_of_ble_eq_true rfl)) dX12_row_6 ⟨Nat.le_of_ble_eq_true rfl, Nat.le_of_ble_eq_true rfl⟩) hS hA hP (fun r6 u6 H locs hw6 hP hS => ?_)
  have hw6_0 := hw6
  rcases hw6_0 with ⟨er6, fc6_0, fc6_1⟩ | er6
  rotate_left 1
  · subst er6
    refine lv_if_eq (tgt := 30) hx hb dX12_row_9 (by decide) (fun _ => ?_) (fun c => absurd c (by decide))
    refine lv_bipush (v := (-2)) hx hb dX12_row_30 (by decide) ?_
    subst hQ
    have hP9 := hP.sub (ws' := [(m, .inr (11, mG m_a 0 m_taped m_at m_token m_place m_value m_word m_bad m_badPlace m_fault m_faultPlace m_willing m_will m_forgot m_isDrawn m_x m_begin m_round m_roundCards m_fate m_any m_bothSend m_meanCards m_bestSum m_fitMany m_fitFirst m_fitSecond)), ((m_a 1), .inl (cI, 4, .inl m_width_c)), ((m_a 2), .inl (cI, 4, .inl m_many_c)), ((m_a 3), .inl (cJ, 240, .inr (.inl m_cells_c)))]) [0, 1, 2, 3] rfl
    have hD9 := hD.sub (ws' := [(m, .inr (11, mG m_a 0 m_taped m_at m_token m_place m_value m_word m_bad m_badPlace m_fault m_faultPlace m_willing m_will m_forgot m_isDrawn m_x m_begin m_round m_roundCards m_fate m_any m_bothSend m_meanCards m_bestSum m_fitMany m_fitFirst m_fitSecond)), ((m_a 1), .inl (cI, 4, .inl m_width_c)), ((m_a 2), .inl (cI, 4, .inl m_many_c)), ((m_a 3), .inl (cJ, 240, .inr (.inl m_cells_c)))]) [0, 1, 2, 3] (by decide) rfl
    exact W.iret (v := (-2)) hx hb hr (fun t ht hW => ⟨⟨(-2), (0, m_width_c, m_many_c, m_cells_c), rfl, ⟨(show ir (0 : Int32).toInt 0 0 by decide), ha_m_many_c, (show ir ((-2) : Int32).toInt (-3) 0 by decide)⟩, ⟨by rw [ht]; exact hP9, va_K.moved hW.alike hK, hD9⟩⟩, hS.F ht⟩) hS.2.2 dX12_row_32
  subst er6
  have fc6_0 : 0 ≤ p0.toInt := fc6_0
  have r6_0b : ir p0.toInt 0 2147483647 := ir_leb fc6_0 (ir_c 0) (rg_all p0) (by decide)
  have fc6_1 : p0.toInt ≤ 3 := fc6_1
  have r6_1a : ir p0.toInt 0 3 := ir_lea fc6_1 r6_0b (ir_c 3) (by decide)
  refine lv_if_eq (tgt := 30) hx hb dX12_row_9 (by decide) (fun c => absurd c (by decide)) (fun _ => ?_)
  refine lv_iload_n hx hb dX12_row_12 rfl (lv_at hl 2 rfl) ?_
  refine lv_i2l (v := p1.toInt64) hx hb dX12_row_13 rfl ?_
  refine lv_lconst (v := 0) hx hb dX12_row_14 (by decide) ?_
  refine lv_ldc2 (v := 3) hx hb hown (hts (.constantLong RX12 110 (3)) (List.mem_cons_of_mem _ (List.mem_append_left _ (List.mem_of_getElem? (i := 4) rfl)))) dX12_row_15 ?_
  refine ro_i (va_runS (As := [.long p1.toInt64, .long 0, .long 3]) (rest := []) ⟨hx, hb, hml, hown, hts⟩ (q_X12_in l g cI cJ cB cZ cL p1.toInt64 p1.toInt 0 0 3 3 H.size (z_i2l rfl) rfl rfl) (va_cwS 3 hts (goodIn_app (g_3 (List.mem_cons_of_mem _ (List.mem_append_left _ (List.mem_of_getElem? (i := 5) rfl))) (List.mem_cons_of_mem _ (List.mem_append_left _ (List.mem_of_getElem? (i := 6) rfl))) (List.mem_cons_of_mem _ (List.mem_append_left _ (List.mem_of_getElem? (i := 3) rfl))) (by decide +kernel)) (goodIn_sub (fun _ h => List.mem_cons_of_mem _ (List.mem_append_right _ (List.mem_append_right _ (List.mem_append_left _ h)))) good_v_X12_in)) rfl rfl rfl (by decide +kernel) ⟨Nat.le_of_ble_eq_true rfl, Nat.le_of_ble_eq_true rfl⟩) (ps_RO (wc := []) hK hP [] rfl) rfl rfl hl.1 rfl (lv_room (Nat.le_of_ble_eq_true rfl)) dX12_row_18 ⟨Nat.le_of_ble_eq_true rfl, Nat.le_of_ble_eq_true rfl⟩) hS hA hP (fun r18 u18 H locs hw18 hP hS => ?_)
  have hw18_0 := hw18
  rcases hw18_0 with ⟨er18, fc18_0, fc18_1⟩ | er18
  rotate_left 1
  · subst er18
    refine lv_if_eq (tgt := 30) hx hb dX12_row_21 (by decide) (fun _ => ?_) (fun c => absurd c (by decide))
    refine lv_bipush (v := (-2)) hx hb dX12_row_30 (by decide) ?_
    subst hQ
    have hP9 := hP.sub (ws' := [(m, .inr (11, mG m_a 0 m_taped m_at m_token m_place m_value m_word m_bad m_badPlace m_fault m_faultPlace m_willing m_will m_forgot m_isDrawn m_x m_begin m_round m_roundCards m_fate m_any m_bothSend m_meanCards m_bestSum m_fitMany m_fitFirst m_fitSecond)), ((m_a 1), .inl (cI, 4, .inl m_width_c)), ((m_a 2), .inl (cI, 4, .inl m_many_c)), ((m_a 3), .inl (cJ, 240, .inr (.inl m_cells_c)))]) [0, 1, 2, 3] rfl
    have hD9 := hD.sub (ws' := [(m, .inr (11, mG m_a 0 m_taped m_at m_token m_place m_value m_word m_bad m_badPlace m_fault m_faultPlace m_willing m_will m_forgot m_isDrawn m_x m_begin m_round m_roundCards m_fate m_any m_bothSend m_meanCards m_bestSum m_fitMany m_fitFirst m_fitSecond)), ((m_a 1), .inl (cI, 4, .inl m_width_c)), ((m_a 2), .inl (cI, 4, .inl m_many_c)), ((m_a 3), .inl (cJ, 240, .inr (.inl m_cells_c)))]) [0, 1, 2, 3] (by decide) rfl
    exact W.iret (v := (-2)) hx hb hr (fun t ht hW => ⟨⟨(-2), (0, m_width_c, m_many_c, m_cells_c), rfl, ⟨(show ir (0 : Int32).toInt 0 0 by decide), ha_m_many_c, (show ir ((-2) : Int32).toInt (-3) 0 by decide)⟩, ⟨by rw [ht]; exact hP9, va_K.moved hW.alike hK, hD9⟩⟩, hS.F ht⟩) hS.2.2 dX12_row_32
  subst er18
  have fc18_0 : 0 ≤ p1.toInt := fc18_0
  have r18_0b : ir p1.toInt 0 2147483647 := ir_leb fc18_0 (ir_c 0) (rg_all p1) (by decide)
  have fc18_1 : p1.toInt ≤ 3 := fc18_1
  have r18_1a : ir p1.toInt 0 3 := ir_lea fc18_1 r18_0b (ir_c 3) (by decide)
  refine lv_if_eq (tgt := 30) hx hb dX12_row_21 (by decide) (fun c => absurd c (by decide)) (fun _ => ?_)
  refine lv_iload_n hx hb dX12_row_24 rfl (lv_at hl 3 rfl) ?_
  refine lv_bipush (v := 60) hx hb dX12_row_25 (by decide) ?_
  refine lv_icmp_le (tgt := 33) hx hb dX12_row_27 (by decide) (fun c27 => ?_) (fun c27 => ?_)
  rotate_left 1
  · have f27 := (show 60 < p2.toInt from z_nle rfl rfl c27)
    have r27a : ir p2.toInt 61 2147483647 := ir_ltb f27 (ir_c 60) (rg_all p2) (by decide)
    refine lv_bipush (v := (-2)) hx hb dX12_row_30 (by decide) ?_
    subst hQ
    have hP9 := hP.sub (ws' := [(m, .inr (11, mG m_a 0 m_taped m_at m_token m_place m_value m_word m_bad m_badPlace m_fault m_faultPlace m_willing m_will m_forgot m_isDrawn m_x m_begin m_round m_roundCards m_fate m_any m_bothSend m_meanCards m_bestSum m_fitMany m_fitFirst m_fitSecond)), ((m_a 1), .inl (cI, 4, .inl m_width_c)), ((m_a 2), .inl (cI, 4, .inl m_many_c)), ((m_a 3), .inl (cJ, 240, .inr (.inl m_cells_c)))]) [0, 1, 2, 3] rfl
    have hD9 := hD.sub (ws' := [(m, .inr (11, mG m_a 0 m_taped m_at m_token m_place m_value m_word m_bad m_badPlace m_fault m_faultPlace m_willing m_will m_forgot m_isDrawn m_x m_begin m_round m_roundCards m_fate m_any m_bothSend m_meanCards m_bestSum m_fitMany m_fitFirst m_fitSecond)), ((m_a 1), .inl (cI, 4, .inl m_width_c)), ((m_a 2), .inl (cI, 4, .inl m_many_c)), ((m_a 3), .inl (cJ, 240, .inr (.inl m_cells_c)))]) [0, 1, 2, 3] (by decide) rfl
    exact W.iret (v := (-2)) hx hb hr (fun t ht hW => ⟨⟨(-2), (0, m_width_c, m_many_c, m_cells_c), rfl, ⟨(show ir (0 : Int32).toInt 0 0 by decide), ha_m_many_c, (show ir ((-2) : Int32).toInt (-3) 0 by decide)⟩, ⟨by rw [ht]; exact hP9, va_K.moved hW.alike hK, hD9⟩⟩, hS.F ht⟩) hS.2.2 dX12_row_32
  have f27 := (show p2.toInt ≤ 60 from z_le rfl rfl c27)
  have r27a : ir p2.toInt (-2147483648) 60 := ir_lea f27 (rg_all p2) (ir_c 60) (by decide)
  refine lv_iload_n hx hb dX12_row_33 rfl (lv_at hl 3 rfl) ?_
  refine lv_if_ge (tgt := 40) hx hb dX12_row_34 (by decide) (fun c34 => ?_) (fun c34 => ?_)
  rotate_left 1
  · have f34 := (show p2.toInt < 0 from z_nle rfl rfl c34)
    have r34a : ir p2.toInt (-2147483648) (-1) := ir_lta f34 r27a (ir_c 0) (by decide)
    refine lv_bipush (v := (-3)) hx hb dX12_row_37 (by decide) ?_
    subst hQ
    have hP9 := hP.sub (ws' := [(m, .inr (11, mG m_a 0 m_taped m_at m_token m_place m_value m_word m_bad m_badPlace m_fault m_faultPlace m_willing m_will m_forgot m_isDrawn m_x m_begin m_round m_roundCards m_fate m_any m_bothSend m_meanCards m_bestSum m_fitMany m_fitFirst m_fitSecond)), ((m_a 1), .inl (cI, 4, .inl m_width_c)), ((m_a 2), .inl (cI, 4, .inl m_many_c)), ((m_a 3), .inl (cJ, 240, .inr (.inl m_cells_c)))]) [0, 1, 2, 3] rfl
    have hD9 := hD.sub (ws' := [(m, .inr (11, mG m_a 0 m_taped m_at m_token m_place m_value m_word m_bad m_badPlace m_fault m_faultPlace m_willing m_will m_forgot m_isDrawn m_x m_begin m_round m_roundCards m_fate m_any m_bothSend m_meanCards m_bestSum m_fitMany m_fitFirst m_fitSecond)), ((m_a 1), .inl (cI, 4, .inl m_width_c)), ((m_a 2), .inl (cI, 4, .inl m_many_c)), ((m_a 3), .inl (cJ, 240, .inr (.inl m_cells_c)))]) [0, 1, 2, 3] (by decide) rfl
    exact W.iret (v := (-3)) hx hb hr (fun t ht hW => ⟨⟨(-3), (0, m_width_c, m_many_c, m_cells_c), rfl, ⟨(show ir (0 : Int32).toInt 0 0 by decide), ha_m_many_c, (show ir ((-3) : Int32).toInt (-3) 0 by decide)⟩, ⟨by rw [ht]; exact hP9, va_K.moved hW.alike hK, hD9⟩⟩, hS.F ht⟩) hS.2.2 dX12_row_39
  have f34 := (show 0 ≤ p2.toInt from z_le rfl rfl c34)
  have r34a : ir p2.toInt 0 60 := ir_leb f34 (ir_c 0) r27a (by decide)
  refine lv_aload_n hx hb dX12_row_40 rfl (lv_at hl 0 rfl) ?_
  refine va_get (D := g) (ci := 11) (v := .ref (m_a 1)) (C := RX12) (T := TX12) (N := 56) hx hb hts iX12 hown hK hP 0 rfl rfl 1 (by decide) (hts (.fieldLink RX12 7 "CardsAtYuleModel" "width" "[I") (List.mem_cons_of_mem _ (List.mem_append_left _ (List.mem_of_getElem? (i := 7) rfl)))) (fun _ h9 => h9) rfl dX12_row_41 ?_
  refine lv_iload_n hx hb dX12_row_44 rfl (lv_at hl 1 rfl) ?_
  refine lv_iload_n hx hb dX12_row_45 rfl (lv_at hl 2 rfl) ?_
  refine va_iast (D := g) hx hb hK hP hD hS 1 0 rfl rfl (vi_rg rfl r6_1a (by decide) (by decide)) dX12_row_46 (fun H locs hP hD hS => ?_)
  obtain ⟨g46, e46⟩ : ∃ z, z = upd m_width_c p0.toNatClampNeg p1 := ⟨_, rfl⟩
  have hP : va_P g vwCl [(m, .inr (11, mG m_a 0 m_taped m_at m_token m_place m_value m_word m_bad m_badPlace m_fault m_faultPlace m_willing m_will m_forgot m_isDrawn m_x m_begin m_round m_roundCards m_fate m_any m_bothSend m_meanCards m_bestSum m_fitMany m_fitFirst m_fitSecond)), ((m_a 1), .inl (cI, 4, .inl (upd m_width_c p0.toNatClampNeg p1))), ((m_a 2), .inl (cI, 4, .inl m_many_c)), ((m_a 3), .inl (cJ, 240, .inr (.inl m_cells_c)))] H := hP
  have hD : va_D A [(m, .inr (11, mG m_a 0 m_taped m_at m_token m_place m_value m_word m_bad m_badPlace m_fault m_faultPlace m_willing m_will m_forgot m_isDrawn m_x m_begin m_round m_roundCards m_fate m_any m_bothSend m_meanCards m_bestSum m_fitMany m_fitFirst m_fitSecond)), ((m_a 1), .inl (cI, 4, .inl (upd m_width_c p0.toNatClampNeg p1))), ((m_a 2), .inl (cI, 4, .inl m_many_c)), ((m_a 3), .inl (cJ, 240, .inr (.inl m_cells_c)))] := hD
  rw [← e46] at hP hD
  refine lv_aload_n hx hb dX12_row_47 rfl (lv_at hl 0 rfl) ?_
  refine va_get (D := g) (ci := 11) (v := .ref (m_a 2)) (C := RX12) (T := TX12) (N := 56) hx hb hts iX12 hown hK hP 0 rfl rfl 2 (by decide) (hts (.fieldLink RX12 13 "CardsAtYuleModel" "many" "[I") (List.mem_cons_of_mem _ (List.mem_append_left _ (List.mem_of_getElem? (i := 8) rfl)))) (fun _ h9 => h9) rfl dX12_row_48 ?_
  refine lv_iload_n hx hb dX12_row_51 rfl (lv_at hl 1 rfl) ?_
  refine lv_iload_n hx hb dX12_row_52 rfl (lv_at hl 3 rfl) ?_
  refine va_iast (D := g) hx hb hK hP hD hS 2 0 rfl rfl (vi_rg rfl r6_1a (by decide) (by decide)) dX12_row_53 (fun H locs hP hD hS => ?_)
  obtain ⟨g53, e53⟩ : ∃ z, z = upd m_many_c p0.toNatClampNeg p2 := ⟨_, rfl⟩
  have hP : va_P g vwCl [(m, .inr (11, mG m_a 0 m_taped m_at m_token m_place m_value m_word m_bad m_badPlace m_fault m_faultPlace m_willing m_will m_forgot m_isDrawn m_x m_begin m_round m_roundCards m_fate m_any m_bothSend m_meanCards m_bestSum m_fitMany m_fitFirst m_fitSecond)), ((m_a 1), .inl (cI, 4, .inl g46)), ((m_a 2), .inl (cI, 4, .inl (upd m_many_c p0.toNatClampNeg p2))), ((m_a 3), .inl (cJ, 240, .inr (.inl m_cells_c)))] H := hP
  have hD : va_D A [(m, .inr (11, mG m_a 0 m_taped m_at m_token m_place m_value m_word m_bad m_badPlace m_fault m_faultPlace m_willing m_will m_forgot m_isDrawn m_x m_begin m_round m_roundCards m_fate m_any m_bothSend m_meanCards m_bestSum m_fitMany m_fitFirst m_fitSecond)), ((m_a 1), .inl (cI, 4, .inl g46)), ((m_a 2), .inl (cI, 4, .inl (upd m_many_c p0.toNatClampNeg p2))), ((m_a 3), .inl (cJ, 240, .inr (.inl m_cells_c)))] := hD
  rw [← e53] at hP hD
  have a53 : ar g53 4 0 60 := by rw [e53]; exact ar_u ha_m_many_c r34a
  refine lv_iconst (v := 0) hx hb dX12_row_54 (by decide) ?_
  refine lv_istore (lv' := [(4, .int 0), (0, .ref m), (1, .int p0), (2, .int p1), (3, .int p2)]) hx hb dX12_row_55 hl (by decide) rfl (fun ls hl => ?_)
  have J57 : ∀ (n57 : Nat) (j57_l4 : Int32) (j57_m_a3_c : Nat → Int64) (H : Heap) (locs : List Loc) (ls : Array Slot), (61 - j57_l4.toInt).toNat < n57 → (ir j57_l4.toInt 0 60) → va_P g vwCl [(m, .inr (11, mG m_a 0 m_taped m_at m_token m_place m_value m_word m_bad m_badPlace m_fault m_faultPlace m_willing m_will m_forgot m_isDrawn m_x m_begin m_round m_roundCards m_fate m_any m_bothSend m_meanCards m_bestSum m_fitMany m_fitFirst m_fitSecond)), ((m_a 1), .inl (cI, 4, .inl g46)), ((m_a 2), .inl (cI, 4, .inl g53)), ((m_a 3), .inl (cJ, 240, .inr (.inl j57_m_a3_c)))] H → va_D A [(m, .inr (11, mG m_a 0 m_taped m_at m_token m_place m_value m_word m_bad m_badPlace m_fault m_faultPlace m_willing m_will m_forgot m_isDrawn m_x m_begin m_round m_roundCards m_fate m_any m_bothSend m_meanCards m_bestSum m_fitMany m_fitFirst m_fitSecond)), ((m_a 1), .inl (cI, 4, .inl g46)), ((m_a 2), .inl (cI, 4, .inl g53)), ((m_a 3), .inl (cJ, 240, .inr (.inl j57_m_a3_c)))] → va_S A s.heap H locs → lv_has ls 5 [(0, .ref m), (1, .int p0), (3, .int p2), (4, .int j57_l4)] → W p l e (headSpec v_X12_row ({ frames := 2, cells := 0, slots := 0, locals := 45 })).room s mth av below meth c H locs 0 0 QQ (F0 mth 57 ls []) := by
    intro n57
    induction n57 with
    | zero => exact fun j57_l4 j57_m_a3_c H locs ls hn => absurd hn (Nat.not_lt_zero _)
    | succ n57 ih57 =>
      intro j57_l4 j57_m_a3_c H locs ls hn57 hj57_l4 hP hD hS hl
      refine lv_iload hx hb dX12_row_57 (lv_at hl 3 rfl) ?_
      refine lv_iload_n hx hb dX12_row_59 rfl (lv_at hl 2 rfl) ?_
      refine lv_icmp_ge (tgt := 82) hx hb dX12_row_60 (by decide) (fun c60 => ?_) (fun c60 => ?_)
      · have f60 := (show p2.toInt ≤ j57_l4.toInt from z_le rfl rfl c60)
        refine lv_iconst (v := 0) hx hb dX12_row_82 (by decide) ?_
        subst hQ
        have hP9 := hP.sub (ws' := [(m, .inr (11, mG m_a 0 m_taped m_at m_token m_place m_value m_word m_bad m_badPlace m_fault m_faultPlace m_willing m_will m_forgot m_isDrawn m_x m_begin m_round m_roundCards m_fate m_any m_bothSend m_meanCards m_bestSum m_fitMany m_fitFirst m_fitSecond)), ((m_a 1), .inl (cI, 4, .inl g46)), ((m_a 2), .inl (cI, 4, .inl g53)), ((m_a 3), .inl (cJ, 240, .inr (.inl j57_m_a3_c)))]) [0, 1, 2, 3] rfl
        have hD9 := hD.sub (ws' := [(m, .inr (11, mG m_a 0 m_taped m_at m_token m_place m_value m_word m_bad m_badPlace m_fault m_faultPlace m_willing m_will m_forgot m_isDrawn m_x m_begin m_round m_roundCards m_fate m_any m_bothSend m_meanCards m_bestSum m_fitMany m_fitFirst m_fitSecond)), ((m_a 1), .inl (cI, 4, .inl g46)), ((m_a 2), .inl (cI, 4, .inl g53)), ((m_a 3), .inl (cJ, 240, .inr (.inl j57_m_a3_c)))]) [0, 1, 2, 3] (by decide) rfl
        exact W.iret (v := 0) hx hb hr (fun t ht hW => ⟨⟨0, (0, g46, g53, j57_m_a3_c), rfl, ⟨(show ir (0 : Int32).toInt 0 0 by decide), a53, (show ir (0 : Int32).toInt (-3) 0 by decide)⟩, ⟨by rw [ht]; exact hP9, va_K.moved hW.alike hK, hD9⟩⟩, hS.F ht⟩) hS.2.2 dX12_row_83
      have f60 := (show j57_l4.toInt < p2.toInt from z_nle rfl rfl c60)
      have r60a : ir j57_l4.toInt 0 59 := ir_lta f60 hj57_l4 r34a (by decide)
      have r60b : ir p2.toInt 1 60 := ir_ltb f60 hj57_l4 r34a (by decide)
      refine lv_aload_n hx hb dX12_row_63 rfl (lv_at hl 0 rfl) ?_
      refine va_get (D := g) (ci := 11) (v := .ref (m_a 3)) (C := RX12) (T := TX12) (N := 56) hx hb hts iX12 hown hK hP 0 rfl rfl 3 (by decide) (hts (.fieldLink RX12 16 "CardsAtYuleModel" "cells" "[J") (List.mem_cons_of_mem _ (List.mem_append_left _ (List.mem_of_getElem? (i := 9) rfl)))) (fun _ h9 => h9) rfl dX12_row_64 ?_
      refine lv_bipush (v := 60) hx hb dX12_row_67 (by decide) ?_
      refine lv_iload_n hx hb dX12_row_69 rfl (lv_at hl 1 rfl) ?_
      refine lv_imul hx hb dX12_row_70 ?_
      refine lv_topi (fun y70 e70 => ?_)
      have q70 : y70.toInt = 60 * p0.toInt := by rw [e70]; exact mu_z rfl rfl (ir_c 60) r6_1a (by decide) (by decide) (by decide)
      have r70 : ir y70.toInt 0 180 := mu_r q70 (ir_c 60) r6_1a (by decide) (by decide) (by decide) (by decide)
      refine lv_iload hx hb dX12_row_71 (lv_at hl 3 rfl) ?_
      refine lv_iadd hx hb dX12_row_73 ?_
      refine lv_topi (fun y73 e73 => ?_)
      have q73 : y73.toInt = y70.toInt + j57_l4.toInt := by rw [e73]; exact ad_z rfl rfl r70 r60a (by decide) (by decide)
      have r73 : ir y73.toInt 0 239 := ad_r q73 r70 r60a (by decide) (by decide)
      refine lv_lconst (v := 0) hx hb dX12_row_74 (by decide) ?_
      refine va_last (D := g) hx hb hK hP hD hS 3 1 rfl rfl (vi_rg rfl r73 (by decide) (by decide)) dX12_row_75 (fun H locs hP hD hS => ?_)
      obtain ⟨g75, e75⟩ : ∃ z, z = vp_updL j57_m_a3_c y73.toNatClampNeg (0 : Int64) := ⟨_, rfl⟩
      have hP : va_P g vwCl [(m, .inr (11, mG m_a 0 m_taped m_at m_token m_place m_value m_word m_bad m_badPlace m_fault m_faultPlace m_willing m_will m_forgot m_isDrawn m_x m_begin m_round m_roundCards m_fate m_any m_bothSend m_meanCards m_bestSum m_fitMany m_fitFirst m_fitSecond)), ((m_a 1), .inl (cI, 4, .inl g46)), ((m_a 2), .inl (cI, 4, .inl g53)), ((m_a 3), .inl (cJ, 240, .inr (.inl (vp_updL j57_m_a3_c y73.toNatClampNeg (0 : Int64)))))] H := hP
      have hD : va_D A [(m, .inr (11, mG m_a 0 m_taped m_at m_token m_place m_value m_word m_bad m_badPlace m_fault m_faultPlace m_willing m_will m_forgot m_isDrawn m_x m_begin m_round m_roundCards m_fate m_any m_bothSend m_meanCards m_bestSum m_fitMany m_fitFirst m_fitSecond)), ((m_a 1), .inl (cI, 4, .inl g46)), ((m_a 2), .inl (cI, 4, .inl g53)), ((m_a 3), .inl (cJ, 240, .inr (.inl (vp_updL j57_m_a3_c y73.toNatClampNeg (0 : Int64)))))] := hD
      rw [← e75] at hP hD
      obtain ⟨y76, e76⟩ : ∃ y : Int32, y = j57_l4 + 1 := ⟨_, rfl⟩
      have q76 : y76.toInt = j57_l4.toInt + 1 := by rw [e76]; exact ad_z rfl rfl r60a (ir_c 1) (by decide) (by decide)
      have r76 : ir y76.toInt 1 60 := ad_r q76 r60a (ir_c 1) (by decide) (by decide)
      refine lv_iinc (v := y76) (lv' := [(4, .int y76), (0, .ref m), (1, .int p0), (3, .int p2)]) hx hb dX12_row_76 hl (k := 3) rfl e76.symm (by decide) rfl (fun ls hl => ?_)
      refine lv_goto (tgt := 57) hx hb dX12_row_79 (by decide) ?_
      exact ih57 y76 g75 _ _ _ (by omega) (ir_w r76 (by decide) (by decide)) (hP.sub [0, 1, 2, 3] rfl) (hD.sub [0, 1, 2, 3] (by decide) rfl) hS (lv_sub hl [1, 2, 3, 0] rfl)
  exact J57 _ 0 m_cells_c _ _ _ (Nat.lt_succ_self _) (by decide) (hP.sub [0, 1, 2, 3] rfl) (hD.sub [0, 1, 2, 3] (by decide) rfl) hS (lv_sub hl [1, 2, 4, 0] rfl)
def v_X12_write : List Cond := .code yX12_write cX12_write 5 (some .int) :: (([.fieldLink RX12 107 "CardsAtYuleModel" "thrown" "I", .methodLink RX12 116 yX12_isSlot, .static yX12_isSlot, .initialized RX12, .fieldLink RX12 7 "CardsAtYuleModel" "width" "[I", .fieldLink RX12 13 "CardsAtYuleModel" "many" "[I", .methodLink RX12 112 yX12_in, .static yX12_in, .fieldLink RX12 16 "CardsAtYuleModel" "cells" "[J", .methodLink RX12 120 yX12_cut, .static yX12_cut] : List Cond) ++ (v_X12_isSlot ++ (v_X12_in ++ (v_X12_cut ++ (wsX120 ++ ([] : List Cond))))))
theorem good_v_X12_write : v_X12_write.all goodWord = true := ga_c (by decide +kernel) (ga_a (by decide +kernel) (ga_a good_v_X12_isSlot (ga_a good_v_X12_in (ga_a good_v_X12_cut (ga_a good_wsX120 rfl)))))
set_option maxHeartbeats 4000000 in
set_option maxRecDepth 100000 in
theorem q_X12_write (l : Launch) (g : va_G) (cI cJ cB cZ cL : ClassId) (p0 : Int32) (p1 : Int32) (p2 : Int64) (m : Nat) (m_a : Nat → Nat) (m_thrown : Int32) (m_taped : Int32) (m_at : Int32) (m_token : Int32) (m_place : Int32) (m_value : Int32) (m_word : Int64) (m_bad : Int32) (m_badPlace : Int32) (m_fault : Int32) (m_faultPlace : Int32) (m_willing : Int32) (m_will : Int32) (m_forgot : Int32) (m_isDrawn : Int32) (m_x : Int64) (m_begin : Int32) (m_round : Int32) (m_roundCards : Int32) (m_fate : Int32) (m_any : Int64) (m_bothSend : Int64) (m_meanCards : Int64) (m_bestSum : Int32) (m_fitMany : Int32) (m_fitFirst : Int64) (m_fitSecond : Int64) (m_width_c : Nat → Int32) (m_many_c : Nat → Int32) (m_cells_c : Nat → Int64) (sz : Nat) (hv_m_taped : ir m_taped.toInt 0 1600) (hv_m_at : ir m_at.toInt 0 1600) (hv_m_will : ir m_will.toInt 0 1) (hv_m_isDrawn : ir m_isDrawn.toInt 0 1) (ha_m_many_c : ar m_many_c 4 0 60) : Met l yX12_write v_X12_write ({ frames := 2, cells := 0, slots := 0, locals := 45 }) (va_Pc [.ref m, .int p0, .int p1, .long p2] (pRW g (tyT cI cJ cB cZ cL) [(m, .inr (11, mG m_a m_thrown m_taped m_at m_token m_place m_value m_word m_bad m_badPlace m_fault m_faultPlace m_willing m_will m_forgot m_isDrawn m_x m_begin m_round m_roundCards m_fate m_any m_bothSend m_meanCards m_bestSum m_fitMany m_fitFirst m_fitSecond)), ((m_a 1), .inl (cI, 4, .inl m_width_c)), ((m_a 2), .inl (cI, 4, .inl m_many_c)), ((m_a 3), .inl (cJ, 240, .inr (.inl m_cells_c)))] sz)) (va_Qi (fun (r : Int32) (u : Int32 × (Nat → Int64)) => match u with | (n_m_thrown, n_m_cells_c) => (ir n_m_thrown.toInt 0 0) ∧ (ir r.toInt (-7) 0)) (fun (u : Int32 × (Nat → Int64)) (t : State) => bRW g (tyT cI cJ cB cZ cL) (va_A [(m, .inr (11, mG m_a m_thrown m_taped m_at m_token m_place m_value m_word m_bad m_badPlace m_fault m_faultPlace m_willing m_will m_forgot m_isDrawn m_x m_begin m_round m_roundCards m_fate m_any m_bothSend m_meanCards m_bestSum m_fitMany m_fitFirst m_fitSecond)), ((m_a 1), .inl (cI, 4, .inl m_width_c)), ((m_a 2), .inl (cI, 4, .inl m_many_c)), ((m_a 3), .inl (cJ, 240, .inr (.inl m_cells_c)))] sz) (match u with | (n_m_thrown, n_m_cells_c) => [(m, .inr (11, mG m_a n_m_thrown m_taped m_at m_token m_place m_value m_word m_bad m_badPlace m_fault m_faultPlace m_willing m_will m_forgot m_isDrawn m_x m_begin m_round m_roundCards m_fate m_any m_bothSend m_meanCards m_bestSum m_fitMany m_fitFirst m_fitSecond)), ((m_a 1), .inl (cI, 4, .inl m_width_c)), ((m_a 2), .inl (cI, 4, .inl m_many_c)), ((m_a 3), .inl (cJ, 240, .inr (.inl n_m_cells_c)))]) t) (va_A [(m, .inr (11, mG m_a m_thrown m_taped m_at m_token m_place m_value m_word m_bad m_badPlace m_fault m_faultPlace m_willing m_will m_forgot m_isDrawn m_x m_begin m_round m_roundCards m_fate m_any m_bothSend m_meanCards m_bestSum m_fitMany m_fitFirst m_fitSecond)), ((m_a 1), .inl (cI, 4, .inl m_width_c)), ((m_a 2), .inl (cI, 4, .inl m_many_c)), ((m_a 3), .inl (cJ, 240, .inr (.inl m_cells_c)))] sz)) 0 0 (va_A [(m, .inr (11, mG m_a m_thrown m_taped m_at m_token m_place m_value m_word m_bad m_badPlace m_fault m_faultPlace m_willing m_will m_forgot m_isDrawn m_x m_begin m_round m_roundCards m_fate m_any m_bothSend m_meanCards m_bestSum m_fitMany m_fitFirst m_fitSecond)), ((m_a 1), .inl (cI, 4, .inl m_width_c)), ((m_a 2), .inl (cI, 4, .inl m_many_c)), ((m_a 3), .inl (cJ, 240, .inr (.inl m_cells_c)))] sz) := by
  refine Met.ofW (cc := cX12_write) (maxL := 5) (ret := (some .int)) (by decide) rfl ?_
  intro p e s mth args below meth c s₁ B hml hv
  obtain ⟨rfl, hsz, hP, hK, hD0⟩ := hv
  have hx := B.exec
  have hb := B.bytes
  have hr := B.returns
  have hts := atoms_spec (ws := v_X12_write) B.pre
  have hown : s.vm.findClass RX12 = some mth.cls := findClass_of_methodNamed B.named
  have hlocks := B.notSynchronized
  clear B
  subst hsz
  have iX12 : ∀ w ∈ wsX120, w ∈ v_X12_write := (fun _ h => List.mem_cons_of_mem _ (List.mem_append_right _ (List.mem_append_right _ (List.mem_append_right _ (List.mem_append_right _ (List.mem_append_left _ h))))))
  have hD := hD0.self (sz := s.heap.size)
  generalize hAe : (va_A [(m, .inr (11, mG m_a m_thrown m_taped m_at m_token m_place m_value m_word m_bad m_badPlace m_fault m_faultPlace m_willing m_will m_forgot m_isDrawn m_x m_begin m_round m_roundCards m_fate m_any m_bothSend m_meanCards m_bestSum m_fitMany m_fitFirst m_fitSecond)), ((m_a 1), .inl (cI, 4, .inl m_width_c)), ((m_a 2), .inl (cI, 4, .inl m_many_c)), ((m_a 3), .inl (cJ, 240, .inr (.inl m_cells_c)))] s.heap.size) = A at hD ⊢
  have hA : ∀ q : Nat, s.heap.size ≤ q → A q := fun q h => by rw [← hAe]; exact Or.inr h
  have hS : va_S A s.heap s.heap [] := va_S.rf
  have hl := lv_entry ([.ref m, .int p0, .int p1, .long p2]) (n := 5) (Nat.le_of_ble_eq_true rfl)
  rw [lg_entry_eq]
  generalize (lg_sl ([.ref m, .int p0, .int p1, .long p2]) ++ List.replicate (5 - (lg_sl ([.ref m, .int p0, .int p1, .long p2])).length) Slot.unset).toArray = ls at hl ⊢
  generalize ([.ref m, .int p0, .int p1, .long p2] : List Value).toArray = av at hts ⊢
  generalize hQ : MQ below _ av s _ _ A = QQ
  have hl : lv_has ls 5 [(0, .ref m), (1, .int p0), (2, .int p1), (3, .long p2)] := hl
  have hP : va_P g vwCl [(m, .inr (11, mG m_a m_thrown m_taped m_at m_token m_place m_value m_word m_bad m_badPlace m_fault m_faultPlace m_willing m_will m_forgot m_isDrawn m_x m_begin m_round m_roundCards m_fate m_any m_bothSend m_meanCards m_bestSum m_fitMany m_fitFirst m_fitSecond)), ((m_a 1), .inl (cI, 4, .inl m_width_c)), ((m_a 2), .inl (cI, 4, .inl m_many_c)), ((m_a 3), .inl (cJ, 240, .inr (.inl m_cells_c)))] s.heap := hP
  refine lv_aload_n hx hb dX12_write_0 rfl (lv_at hl 0 rfl) ?_
  refine lv_iconst (v := 0) hx hb dX12_write_1 (by decide) ?_
  refine va_put (D := g) (ci := 11) (v := .int 0) (ty := .int) (C := RX12) (T := TX12) (N := 56) hx hb hts iX12 tyX12 tyX12_ok nmX12 hown hK hP hD hS 0 rfl rfl 0 (by decide) (hts (.fieldLink RX12 107 "CardsAtYuleModel" "thrown" "I") (List.mem_cons_of_mem _ (List.mem_append_left _ (List.mem_of_getElem? (i := 0) rfl)))) (fun _ h9 => h9) rfl (by decide +kernel) rfl rfl (Nat.le_of_ble_eq_true rfl) dX12_write_2 (fun H locs hP hD hS => ?_)
  have hP : va_P g vwCl [(m, .inr (11, mG m_a 0 m_taped m_at m_token m_place m_value m_word m_bad m_badPlace m_fault m_faultPlace m_willing m_will m_forgot m_isDrawn m_x m_begin m_round m_roundCards m_fate m_any m_bothSend m_meanCards m_bestSum m_fitMany m_fitFirst m_fitSecond)), ((m_a 1), .inl (cI, 4, .inl m_width_c)), ((m_a 2), .inl (cI, 4, .inl m_many_c)), ((m_a 3), .inl (cJ, 240, .inr (.inl m_cells_c)))] H := hP
  have hD : va_D A [(m, .inr (11, mG m_a 0 m_taped m_at m_token m_place m_value m_word m_bad m_badPlace m_fault m_faultPlace m_willing m_will m_forgot m_isDrawn m_x m_begin m_round m_roundCards m_fate m_any m_bothSend m_meanCards m_bestSum m_fitMany m_fitFirst m_fitSecond)), ((m_a 1), .inl (cI, 4, .inl m_width_c)), ((m_a 2), .inl (cI, 4, .inl m_many_c)), ((m_a 3), .inl (cJ, 240, .inr (.inl m_cells_c)))] := hD
  refine lv_iload_n hx hb dX12_write_5 rfl (lv_at hl 1 rfl) ?_
  refine ro_i (va_runS (As := [.int p0]) (rest := []) ⟨hx, hb, hml, hown, hts⟩ (q_X12_isSlot l g cI cJ cB cZ cL p0 H.size ) (va_cwS 1 hts (goodIn_app (g_3 (List.mem_cons_of_mem _ (List.mem_append_left _ (List.mem_of_getElem? (i := 1) rfl))) (List.mem_cons_of_mem _ (List.mem_append_left _ (List.mem_of_getElem? (i := 2) rfl))) (List.mem_cons_of_mem _ (List.mem_append_left _ (List.mem_of_getElem? (i := 3) rfl))) (by decide +kernel)) (goodIn_sub (fun _ h => List.mem_cons_of_mem _ (List.mem_append_right _ (List.mem_append_left _ h))) good_v_X12_isSlot)) rfl rfl rfl (by decide +kernel) ⟨Nat.le_of_ble_eq_true rfl, Nat.le_of_ble_eq_true rfl⟩) (ps_RO (wc := []) hK hP [] rfl) rfl rfl hl.1 rfl (lv_room (Nat.le_of_ble_eq_true rfl)) dX12_write_6 ⟨Nat.le_of_ble_eq_true rfl, Nat.le_of_ble_eq_true rfl⟩) hS hA hP (fun r6 u6 H locs hw6 hP hS => ?_)
  have hw6_0 := hw6
  rcases hw6_0 with ⟨er6, fc6_0, fc6_1⟩ | er6
  rotate_left 1
  · subst er6
    refine lv_if_ne (tgt := 15) hx hb dX12_write_9 (by decide) (fun c => absurd c (by decide)) (fun _ => ?_)
    refine lv_bipush (v := (-2)) hx hb dX12_write_12 (by decide) ?_
    subst hQ
    have hP9 := hP.sub (ws' := [(m, .inr (11, mG m_a 0 m_taped m_at m_token m_place m_value m_word m_bad m_badPlace m_fault m_faultPlace m_willing m_will m_forgot m_isDrawn m_x m_begin m_round m_roundCards m_fate m_any m_bothSend m_meanCards m_bestSum m_fitMany m_fitFirst m_fitSecond)), ((m_a 1), .inl (cI, 4, .inl m_width_c)), ((m_a 2), .inl (cI, 4, .inl m_many_c)), ((m_a 3), .inl (cJ, 240, .inr (.inl m_cells_c)))]) [0, 1, 2, 3] rfl
    have hD9 := hD.sub (ws' := [(m, .inr (11, mG m_a 0 m_taped m_at m_token m_place m_value m_word m_bad m_badPlace m_fault m_faultPlace m_willing m_will m_forgot m_isDrawn m_x m_begin m_round m_roundCards m_fate m_any m_bothSend m_meanCards m_bestSum m_fitMany m_fitFirst m_fitSecond)), ((m_a 1), .inl (cI, 4, .inl m_width_c)), ((m_a 2), .inl (cI, 4, .inl m_many_c)), ((m_a 3), .inl (cJ, 240, .inr (.inl m_cells_c)))]) [0, 1, 2, 3] (by decide) rfl
    exact W.iret (v := (-2)) hx hb hr (fun t ht hW => ⟨⟨(-2), (0, m_cells_c), rfl, ⟨(show ir (0 : Int32).toInt 0 0 by decide), (show ir ((-2) : Int32).toInt (-7) 0 by decide)⟩, ⟨by rw [ht]; exact hP9, va_K.moved hW.alike hK, hD9⟩⟩, hS.F ht⟩) hS.2.2 dX12_write_14
  subst er6
  have fc6_0 : 0 ≤ p0.toInt := fc6_0
  have r6_0b : ir p0.toInt 0 2147483647 := ir_leb fc6_0 (ir_c 0) (rg_all p0) (by decide)
  have fc6_1 : p0.toInt ≤ 3 := fc6_1
  have r6_1a : ir p0.toInt 0 3 := ir_lea fc6_1 r6_0b (ir_c 3) (by decide)
  refine lv_if_ne (tgt := 15) hx hb dX12_write_9 (by decide) (fun _ => ?_) (fun c => absurd c (by decide))
  refine lv_aload_n hx hb dX12_write_15 rfl (lv_at hl 0 rfl) ?_
  refine va_get (D := g) (ci := 11) (v := .ref (m_a 1)) (C := RX12) (T := TX12) (N := 56) hx hb hts iX12 hown hK hP 0 rfl rfl 1 (by decide) (hts (.fieldLink RX12 7 "CardsAtYuleModel" "width" "[I") (List.mem_cons_of_mem _ (List.mem_append_left _ (List.mem_of_getElem? (i := 4) rfl)))) (fun _ h9 => h9) rfl dX12_write_16 ?_
  refine lv_iload_n hx hb dX12_write_19 rfl (lv_at hl 1 rfl) ?_
  refine va_iald (D := g) hx hb hK hP 1 0 rfl rfl (vi_rg rfl r6_1a (by decide) (by decide)) dX12_write_20 ?_
  refine lv_topi (fun y20 e20 => ?_)
  refine lv_iconst (v := (-1)) hx hb dX12_write_21 (by decide) ?_
  refine lv_icmp_ne (tgt := 28) hx hb dX12_write_22 (by decide) (fun c22 => ?_) (fun c22 => ?_)
  rotate_left 1
  · have f22 := (show y20.toInt = (-1) from z_eq rfl rfl c22)
    have r22a : ir y20.toInt (-1) (-1) := ir_eqa f22 (rg_all y20) (ir_c (-1)) (by decide) (by decide)
    refine lv_bipush (v := (-6)) hx hb dX12_write_25 (by decide) ?_
    subst hQ
    have hP9 := hP.sub (ws' := [(m, .inr (11, mG m_a 0 m_taped m_at m_token m_place m_value m_word m_bad m_badPlace m_fault m_faultPlace m_willing m_will m_forgot m_isDrawn m_x m_begin m_round m_roundCards m_fate m_any m_bothSend m_meanCards m_bestSum m_fitMany m_fitFirst m_fitSecond)), ((m_a 1), .inl (cI, 4, .inl m_width_c)), ((m_a 2), .inl (cI, 4, .inl m_many_c)), ((m_a 3), .inl (cJ, 240, .inr (.inl m_cells_c)))]) [0, 1, 2, 3] rfl
    have hD9 := hD.sub (ws' := [(m, .inr (11, mG m_a 0 m_taped m_at m_token m_place m_value m_word m_bad m_badPlace m_fault m_faultPlace m_willing m_will m_forgot m_isDrawn m_x m_begin m_round m_roundCards m_fate m_any m_bothSend m_meanCards m_bestSum m_fitMany m_fitFirst m_fitSecond)), ((m_a 1), .inl (cI, 4, .inl m_width_c)), ((m_a 2), .inl (cI, 4, .inl m_many_c)), ((m_a 3), .inl (cJ, 240, .inr (.inl m_cells_c)))]) [0, 1, 2, 3] (by decide) rfl
    exact W.iret (v := (-6)) hx hb hr (fun t ht hW => ⟨⟨(-6), (0, m_cells_c), rfl, ⟨(show ir (0 : Int32).toInt 0 0 by decide), (show ir ((-6) : Int32).toInt (-7) 0 by decide)⟩, ⟨by rw [ht]; exact hP9, va_K.moved hW.alike hK, hD9⟩⟩, hS.F ht⟩) hS.2.2 dX12_write_27
  have f22 := (show y20.toInt ≠ (-1) from z_ne rfl rfl c22)
  refine lv_iload_n hx hb dX12_write_28 rfl (lv_at hl 2 rfl) ?_
  refine lv_i2l (v := p1.toInt64) hx hb dX12_write_29 rfl ?_
  refine lv_lconst (v := 0) hx hb dX12_write_30 (by decide) ?_
  refine lv_aload_n hx hb dX12_write_31 rfl (lv_at hl 0 rfl) ?_
  refine va_get (D := g) (ci := 11) (v := .ref (m_a 2)) (C := RX12) (T := TX12) (N := 56) hx hb hts iX12 hown hK hP 0 rfl rfl 2 (by decide) (hts (.fieldLink RX12 13 "CardsAtYuleModel" "many" "[I") (List.mem_cons_of_mem _ (List.mem_append_left _ (List.mem_of_getElem? (i := 5) rfl)))) (fun _ h9 => h9) rfl dX12_write_32 ?_
  refine lv_iload_n hx hb dX12_write_35 rfl (lv_at hl 1 rfl) ?_
  refine va_iald (D := g) hx hb hK hP 2 0 rfl rfl (vi_rg rfl r6_1a (by decide) (by decide)) dX12_write_36 ?_
  refine lv_topi (fun y36 e36 => ?_)
  have r36 : ir y36.toInt 0 60 := by rw [e36]; exact ha_m_many_c _ (vi_cl (vi_rg rfl r6_1a (by decide) (by decide)))
  refine lv_iconst (v := 1) hx hb dX12_write_37 (by decide) ?_
  refine lv_isub hx hb dX12_write_38 ?_
  refine lv_topi (fun y38 e38 => ?_)
  have q38 : y38.toInt = y36.toInt - 1 := by rw [e38]; exact su_z rfl rfl r36 (ir_c 1) (by decide) (by decide)
  have r38 : ir y38.toInt (-1) 59 := su_r q38 r36 (ir_c 1) (by decide) (by decide)
  refine lv_i2l (v := y38.toInt64) hx hb dX12_write_39 rfl ?_
  refine ro_i (va_runS (As := [.long p1.toInt64, .long 0, .long y38.toInt64]) (rest := []) ⟨hx, hb, hml, hown, hts⟩ (q_X12_in l g cI cJ cB cZ cL p1.toInt64 p1.toInt 0 0 y38.toInt64 y38.toInt H.size (z_i2l rfl) rfl (z_i2l rfl)) (va_cwS 3 hts (goodIn_app (g_3 (List.mem_cons_of_mem _ (List.mem_append_left _ (List.mem_of_getElem? (i := 6) rfl))) (List.mem_cons_of_mem _ (List.mem_append_left _ (List.mem_of_getElem? (i := 7) rfl))) (List.mem_cons_of_mem _ (List.mem_append_left _ (List.mem_of_getElem? (i := 3) rfl))) (by decide +kernel)) (goodIn_sub (fun _ h => List.mem_cons_of_mem _ (List.mem_append_right _ (List.mem_append_right _ (List.mem_append_left _ h)))) good_v_X12_in)) rfl rfl rfl (by decide +kernel) ⟨Nat.le_of_ble_eq_true rfl, Nat.le_of_ble_eq_true rfl⟩) (ps_RO (wc := []) hK hP [] rfl) rfl rfl hl.1 rfl (lv_room (Nat.le_of_ble_eq_true rfl)) dX12_write_40 ⟨Nat.le_of_ble_eq_true rfl, Nat.le_of_ble_eq_true rfl⟩) hS hA hP (fun r40 u40 H locs hw40 hP hS => ?_)
  have hw40_0 := hw40
  rcases hw40_0 with ⟨er40, fc40_0, fc40_1⟩ | er40
  rotate_left 1
  · subst er40
    refine lv_if_ne (tgt := 49) hx hb dX12_write_43 (by decide) (fun c => absurd c (by decide)) (fun _ => ?_)
    refine lv_bipush (v := (-7)) hx hb dX12_write_46 (by decide) ?_
    subst hQ
    have hP9 := hP.sub (ws' := [(m, .inr (11, mG m_a 0 m_taped m_at m_token m_place m_value m_word m_bad m_badPlace m_fault m_faultPlace m_willing m_will m_forgot m_isDrawn m_x m_begin m_round m_roundCards m_fate m_any m_bothSend m_meanCards m_bestSum m_fitMany m_fitFirst m_fitSecond)), ((m_a 1), .inl (cI, 4, .inl m_width_c)), ((m_a 2), .inl (cI, 4, .inl m_many_c)), ((m_a 3), .inl (cJ, 240, .inr (.inl m_cells_c)))]) [0, 1, 2, 3] rfl
    have hD9 := hD.sub (ws' := [(m, .inr (11, mG m_a 0 m_taped m_at m_token m_place m_value m_word m_bad m_badPlace m_fault m_faultPlace m_willing m_will m_forgot m_isDrawn m_x m_begin m_round m_roundCards m_fate m_any m_bothSend m_meanCards m_bestSum m_fitMany m_fitFirst m_fitSecond)), ((m_a 1), .inl (cI, 4, .inl m_width_c)), ((m_a 2), .inl (cI, 4, .inl m_many_c)), ((m_a 3), .inl (cJ, 240, .inr (.inl m_cells_c)))]) [0, 1, 2, 3] (by decide) rfl
    exact W.iret (v := (-7)) hx hb hr (fun t ht hW => ⟨⟨(-7), (0, m_cells_c), rfl, ⟨(show ir (0 : Int32).toInt 0 0 by decide), (show ir ((-7) : Int32).toInt (-7) 0 by decide)⟩, ⟨by rw [ht]; exact hP9, va_K.moved hW.alike hK, hD9⟩⟩, hS.F ht⟩) hS.2.2 dX12_write_48
  subst er40
  have fc40_0 : 0 ≤ p1.toInt := fc40_0
  have r40_0b : ir p1.toInt 0 2147483647 := ir_leb fc40_0 (ir_c 0) (rg_all p1) (by decide)
  have fc40_1 : p1.toInt ≤ y38.toInt := fc40_1
  have r40_1a : ir p1.toInt 0 59 := ir_lea fc40_1 r40_0b r38 (by decide)
  have r40_1b : ir y38.toInt 0 59 := ir_leb fc40_1 r40_0b r38 (by decide)
  refine lv_if_ne (tgt := 49) hx hb dX12_write_43 (by decide) (fun _ => ?_) (fun c => absurd c (by decide))
  refine lv_aload_n hx hb dX12_write_49 rfl (lv_at hl 0 rfl) ?_
  refine va_get (D := g) (ci := 11) (v := .ref (m_a 3)) (C := RX12) (T := TX12) (N := 56) hx hb hts iX12 hown hK hP 0 rfl rfl 3 (by decide) (hts (.fieldLink RX12 16 "CardsAtYuleModel" "cells" "[J") (List.mem_cons_of_mem _ (List.mem_append_left _ (List.mem_of_getElem? (i := 8) rfl)))) (fun _ h9 => h9) rfl dX12_write_50 ?_
  refine lv_bipush (v := 60) hx hb dX12_write_53 (by decide) ?_
  refine lv_iload_n hx hb dX12_write_55 rfl (lv_at hl 1 rfl) ?_
  refine lv_imul hx hb dX12_write_56 ?_
  refine lv_topi (fun y56 e56 => ?_)
  have q56 : y56.toInt = 60 * p0.toInt := by rw [e56]; exact mu_z rfl rfl (ir_c 60) r6_1a (by decide) (by decide) (by decide)
  have r56 : ir y56.toInt 0 180 := mu_r q56 (ir_c 60) r6_1a (by decide) (by decide) (by decide) (by decide)
  refine lv_iload_n hx hb dX12_write_57 rfl (lv_at hl 2 rfl) ?_
  refine lv_iadd hx hb dX12_write_58 ?_
  refine lv_topi (fun y58 e58 => ?_)
  have q58 : y58.toInt = y56.toInt + p1.toInt := by rw [e58]; exact ad_z rfl rfl r56 r40_1a (by decide) (by decide)
  have r58 : ir y58.toInt 0 239 := ad_r q58 r56 r40_1a (by decide) (by decide)
  refine lv_lload_n hx hb dX12_write_59 rfl (lv_at hl 3 rfl) ?_
  refine lv_aload_n hx hb dX12_write_60 rfl (lv_at hl 0 rfl) ?_
  refine va_get (D := g) (ci := 11) (v := .ref (m_a 1)) (C := RX12) (T := TX12) (N := 56) hx hb hts iX12 hown hK hP 0 rfl rfl 1 (by decide) (hts (.fieldLink RX12 7 "CardsAtYuleModel" "width" "[I") (List.mem_cons_of_mem _ (List.mem_append_left _ (List.mem_of_getElem? (i := 4) rfl)))) (fun _ h9 => h9) rfl dX12_write_61 ?_
  refine lv_iload_n hx hb dX12_write_64 rfl (lv_at hl 1 rfl) ?_
  refine va_iald (D := g) hx hb hK hP 1 0 rfl rfl (vi_rg rfl r6_1a (by decide) (by decide)) dX12_write_65 ?_
  refine lv_topi (fun y65 e65 => ?_)
  refine ro_l (va_runS (As := [.long p2, .int y65]) (rest := [.int y58, .ref (m_a 3)]) ⟨hx, hb, hml, hown, hts⟩ (q_X12_cut l g cI cJ cB cZ cL p2 y65 H.size ) (va_cwS 2 hts (goodIn_app (g_3 (List.mem_cons_of_mem _ (List.mem_append_left _ (List.mem_of_getElem? (i := 9) rfl))) (List.mem_cons_of_mem _ (List.mem_append_left _ (List.mem_of_getElem? (i := 10) rfl))) (List.mem_cons_of_mem _ (List.mem_append_left _ (List.mem_of_getElem? (i := 3) rfl))) (by decide +kernel)) (goodIn_sub (fun _ h => List.mem_cons_of_mem _ (List.mem_append_right _ (List.mem_append_right _ (List.mem_append_right _ (List.mem_append_left _ h))))) good_v_X12_cut)) rfl rfl rfl (by decide +kernel) ⟨Nat.le_of_ble_eq_true rfl, Nat.le_of_ble_eq_true rfl⟩) (ps_RO (wc := []) hK hP [] rfl) rfl rfl hl.1 rfl (lv_room (Nat.le_of_ble_eq_true rfl)) dX12_write_66 ⟨Nat.le_of_ble_eq_true rfl, Nat.le_of_ble_eq_true rfl⟩) hS hA hP (fun r66 u66 H locs hw66 hP hS => ?_)
  refine va_last (D := g) hx hb hK hP hD hS 3 1 rfl rfl (vi_rg rfl r58 (by decide) (by decide)) dX12_write_69 (fun H locs hP hD hS => ?_)
  obtain ⟨g69, e69⟩ : ∃ z, z = vp_updL m_cells_c y58.toNatClampNeg r66 := ⟨_, rfl⟩
  have hP : va_P g vwCl [(m, .inr (11, mG m_a 0 m_taped m_at m_token m_place m_value m_word m_bad m_badPlace m_fault m_faultPlace m_willing m_will m_forgot m_isDrawn m_x m_begin m_round m_roundCards m_fate m_any m_bothSend m_meanCards m_bestSum m_fitMany m_fitFirst m_fitSecond)), ((m_a 1), .inl (cI, 4, .inl m_width_c)), ((m_a 2), .inl (cI, 4, .inl m_many_c)), ((m_a 3), .inl (cJ, 240, .inr (.inl (vp_updL m_cells_c y58.toNatClampNeg r66))))] H := hP
  have hD : va_D A [(m, .inr (11, mG m_a 0 m_taped m_at m_token m_place m_value m_word m_bad m_badPlace m_fault m_faultPlace m_willing m_will m_forgot m_isDrawn m_x m_begin m_round m_roundCards m_fate m_any m_bothSend m_meanCards m_bestSum m_fitMany m_fitFirst m_fitSecond)), ((m_a 1), .inl (cI, 4, .inl m_width_c)), ((m_a 2), .inl (cI, 4, .inl m_many_c)), ((m_a 3), .inl (cJ, 240, .inr (.inl (vp_updL m_cells_c y58.toNatClampNeg r66))))] := hD
  rw [← e69] at hP hD
  refine lv_iconst (v := 0) hx hb dX12_write_70 (by decide) ?_
  subst hQ
  have hP9 := hP.sub (ws' := [(m, .inr (11, mG m_a 0 m_taped m_at m_token m_place m_value m_word m_bad m_badPlace m_fault m_faultPlace m_willing m_will m_forgot m_isDrawn m_x m_begin m_round m_roundCards m_fate m_any m_bothSend m_meanCards m_bestSum m_fitMany m_fitFirst m_fitSecond)), ((m_a 1), .inl (cI, 4, .inl m_width_c)), ((m_a 2), .inl (cI, 4, .inl m_many_c)), ((m_a 3), .inl (cJ, 240, .inr (.inl g69)))]) [0, 1, 2, 3] rfl
  have hD9 := hD.sub (ws' := [(m, .inr (11, mG m_a 0 m_taped m_at m_token m_place m_value m_word m_bad m_badPlace m_fault m_faultPlace m_willing m_will m_forgot m_isDrawn m_x m_begin m_round m_roundCards m_fate m_any m_bothSend m_meanCards m_bestSum m_fitMany m_fitFirst m_fitSecond)), ((m_a 1), .inl (cI, 4, .inl m_width_c)), ((m_a 2), .inl (cI, 4, .inl m_many_c)), ((m_a 3), .inl (cJ, 240, .inr (.inl g69)))]) [0, 1, 2, 3] (by decide) rfl
  exact W.iret (v := 0) hx hb hr (fun t ht hW => ⟨⟨0, (0, g69), rfl, ⟨(show ir (0 : Int32).toInt 0 0 by decide), (show ir (0 : Int32).toInt (-7) 0 by decide)⟩, ⟨by rw [ht]; exact hP9, va_K.moved hW.alike hK, hD9⟩⟩, hS.F ht⟩) hS.2.2 dX12_write_71
def v_X12_paste : List Cond := .code yX12_paste cX12_paste 7 (some .int) :: (([.fieldLink RX12 107 "CardsAtYuleModel" "thrown" "I", .methodLink RX12 116 yX12_isSlot, .static yX12_isSlot, .initialized RX12, .fieldLink RX12 7 "CardsAtYuleModel" "width" "[I", .fieldLink RX12 13 "CardsAtYuleModel" "many" "[I", .fieldLink RX12 16 "CardsAtYuleModel" "cells" "[J", .fieldLink RX12 20 "CardsAtYuleModel" "moved" "[J"] : List Cond) ++ (v_X12_isSlot ++ (wsX120 ++ ([] : List Cond))))
theorem good_v_X12_paste : v_X12_paste.all goodWord = true := ga_c (by decide +kernel) (ga_a (by decide +kernel) (ga_a good_v_X12_isSlot (ga_a good_wsX120 rfl)))
set_option maxHeartbeats 4000000 in
set_option maxRecDepth 100000 in
theorem q_X12_paste (l : Launch) (g : va_G) (cI cJ cB cZ cL : ClassId) (p0 : Int32) (p1 : Int32) (p2 : Int32) (p3 : Int32) (p4 : Int32) (m : Nat) (m_a : Nat → Nat) (m_thrown : Int32) (m_taped : Int32) (m_at : Int32) (m_token : Int32) (m_place : Int32) (m_value : Int32) (m_word : Int64) (m_bad : Int32) (m_badPlace : Int32) (m_fault : Int32) (m_faultPlace : Int32) (m_willing : Int32) (m_will : Int32) (m_forgot : Int32) (m_isDrawn : Int32) (m_x : Int64) (m_begin : Int32) (m_round : Int32) (m_roundCards : Int32) (m_fate : Int32) (m_any : Int64) (m_bothSend : Int64) (m_meanCards : Int64) (m_bestSum : Int32) (m_fitMany : Int32) (m_fitFirst : Int64) (m_fitSecond : Int64) (m_width_c : Nat → Int32) (m_many_c : Nat → Int32) (m_cells_c : Nat → Int64) (m_moved_c : Nat → Int64) (sz : Nat) (hv_m_taped : ir m_taped.toInt 0 1600) (hv_m_at : ir m_at.toInt 0 1600) (hv_m_will : ir m_will.toInt 0 1) (hv_m_isDrawn : ir m_isDrawn.toInt 0 1) (ha_m_many_c : ar m_many_c 4 0 60) : Met l yX12_paste v_X12_paste ({ frames := 2, cells := 0, slots := 0, locals := 45 }) (va_Pc [.ref m, .int p0, .int p1, .int p2, .int p3, .int p4] (pRW g (tyT cI cJ cB cZ cL) [(m, .inr (11, mG m_a m_thrown m_taped m_at m_token m_place m_value m_word m_bad m_badPlace m_fault m_faultPlace m_willing m_will m_forgot m_isDrawn m_x m_begin m_round m_roundCards m_fate m_any m_bothSend m_meanCards m_bestSum m_fitMany m_fitFirst m_fitSecond)), ((m_a 1), .inl (cI, 4, .inl m_width_c)), ((m_a 2), .inl (cI, 4, .inl m_many_c)), ((m_a 3), .inl (cJ, 240, .inr (.inl m_cells_c))), ((m_a 4), .inl (cJ, 60, .inr (.inl m_moved_c)))] sz)) (va_Qi (fun (r : Int32) (u : Int32 × (Nat → Int64) × (Nat → Int64)) => match u with | (n_m_thrown, n_m_cells_c, n_m_moved_c) => (ir n_m_thrown.toInt 0 0) ∧ (ir r.toInt (-8) 0)) (fun (u : Int32 × (Nat → Int64) × (Nat → Int64)) (t : State) => bRW g (tyT cI cJ cB cZ cL) (va_A [(m, .inr (11, mG m_a m_thrown m_taped m_at m_token m_place m_value m_word m_bad m_badPlace m_fault m_faultPlace m_willing m_will m_forgot m_isDrawn m_x m_begin m_round m_roundCards m_fate m_any m_bothSend m_meanCards m_bestSum m_fitMany m_fitFirst m_fitSecond)), ((m_a 1), .inl (cI, 4, .inl m_width_c)), ((m_a 2), .inl (cI, 4, .inl m_many_c)), ((m_a 3), .inl (cJ, 240, .inr (.inl m_cells_c))), ((m_a 4), .inl (cJ, 60, .inr (.inl m_moved_c)))] sz) (match u with | (n_m_thrown, n_m_cells_c, n_m_moved_c) => [(m, .inr (11, mG m_a n_m_thrown m_taped m_at m_token m_place m_value m_word m_bad m_badPlace m_fault m_faultPlace m_willing m_will m_forgot m_isDrawn m_x m_begin m_round m_roundCards m_fate m_any m_bothSend m_meanCards m_bestSum m_fitMany m_fitFirst m_fitSecond)), ((m_a 1), .inl (cI, 4, .inl m_width_c)), ((m_a 2), .inl (cI, 4, .inl m_many_c)), ((m_a 3), .inl (cJ, 240, .inr (.inl n_m_cells_c))), ((m_a 4), .inl (cJ, 60, .inr (.inl n_m_moved_c)))]) t) (va_A [(m, .inr (11, mG m_a m_thrown m_taped m_at m_token m_place m_value m_word m_bad m_badPlace m_fault m_faultPlace m_willing m_will m_forgot m_isDrawn m_x m_begin m_round m_roundCards m_fate m_any m_bothSend m_meanCards m_bestSum m_fitMany m_fitFirst m_fitSecond)), ((m_a 1), .inl (cI, 4, .inl m_width_c)), ((m_a 2), .inl (cI, 4, .inl m_many_c)), ((m_a 3), .inl (cJ, 240, .inr (.inl m_cells_c))), ((m_a 4), .inl (cJ, 60, .inr (.inl m_moved_c)))] sz)) 0 0 (va_A [(m, .inr (11, mG m_a m_thrown m_taped m_at m_token m_place m_value m_word m_bad m_badPlace m_fault m_faultPlace m_willing m_will m_forgot m_isDrawn m_x m_begin m_round m_roundCards m_fate m_any m_bothSend m_meanCards m_bestSum m_fitMany m_fitFirst m_fitSecond)), ((m_a 1), .inl (cI, 4, .inl m_width_c)), ((m_a 2), .inl (cI, 4, .inl m_many_c)), ((m_a 3), .inl (cJ, 240, .inr (.inl m_cells_c))), ((m_a 4), .inl (cJ, 60, .inr (.inl m_moved_c)))] sz) := by
  refine Met.ofW (cc := cX12_paste) (maxL := 7) (ret := (some .int)) (by decide) rfl ?_
  intro p e s mth args below meth c s₁ B hml hv
  obtain ⟨rfl, hsz, hP, hK, hD0⟩ := hv
  have hx := B.exec
  have hb := B.bytes
  have hr := B.returns
  have hts := atoms_spec (ws := v_X12_paste) B.pre
  have hown : s.vm.findClass RX12 = some mth.cls := findClass_of_methodNamed B.named
  have hlocks := B.notSynchronized
  clear B
  subst hsz
  have iX12 : ∀ w ∈ wsX120, w ∈ v_X12_paste := (fun _ h => List.mem_cons_of_mem _ (List.mem_append_right _ (List.mem_append_right _ (List.mem_append_left _ h))))
  have hD := hD0.self (sz := s.heap.size)
  generalize hAe : (va_A [(m, .inr (11, mG m_a m_thrown m_taped m_at m_token m_place m_value m_word m_bad m_badPlace m_fault m_faultPlace m_willing m_will m_forgot m_isDrawn m_x m_begin m_round m_roundCards m_fate m_any m_bothSend m_meanCards m_bestSum m_fitMany m_fitFirst m_fitSecond)), ((m_a 1), .inl (cI, 4, .inl m_width_c)), ((m_a 2), .inl (cI, 4, .inl m_many_c)), ((m_a 3), .inl (cJ, 240, .inr (.inl m_cells_c))), ((m_a 4), .inl (cJ, 60, .inr (.inl m_moved_c)))] s.heap.size) = A at hD ⊢
  have hA : ∀ q : Nat, s.heap.size ≤ q → A q := fun q h => by rw [← hAe]; exact Or.inr h
  have hS : va_S A s.heap s.heap [] := va_S.rf
  have hl := lv_entry ([.ref m, .int p0, .int p1, .int p2, .int p3, .int p4]) (n := 7) (Nat.le_of_ble_eq_true rfl)
  rw [lg_entry_eq]
  generalize (lg_sl ([.ref m, .int p0, .int p1, .int p2, .int p3, .int p4]) ++ List.replicate (7 - (lg_sl ([.ref m, .int p0, .int p1, .int p2, .int p3, .int p4])).length) Slot.unset).toArray = ls at hl ⊢
  generalize ([.ref m, .int p0, .int p1, .int p2, .int p3, .int p4] : List Value).toArray = av at hts ⊢
  generalize hQ : MQ below _ av s _ _ A = QQ
  have hl : lv_has ls 7 [(0, .ref m), (1, .int p0), (2, .int p1), (3, .int p2), (4, .int p3), (5, .int p4)] := hl
  have hP : va_P g vwCl [(m, .inr (11, mG m_a m_thrown m_taped m_at m_token m_place m_value m_word m_bad m_badPlace m_fault m_faultPlace m_willing m_will m_forgot m_isDrawn m_x m_begin m_round m_roundCards m_fate m_any m_bothSend m_meanCards m_bestSum m_fitMany m_fitFirst m_fitSecond)), ((m_a 1), .inl (cI, 4, .inl m_width_c)), ((m_a 2), .inl (cI, 4, .inl m_many_c)), ((m_a 3), .inl (cJ, 240, .inr (.inl m_cells_c))), ((m_a 4), .inl (cJ, 60, .inr (.inl m_moved_c)))] s.heap := hP
  refine lv_aload_n hx hb dX12_paste_0 rfl (lv_at hl 0 rfl) ?_
  refine lv_iconst (v := 0) hx hb dX12_paste_1 (by decide) ?_
  refine va_put (D := g) (ci := 11) (v := .int 0) (ty := .int) (C := RX12) (T := TX12) (N := 56) hx hb hts iX12 tyX12 tyX12_ok nmX12 hown hK hP hD hS 0 rfl rfl 0 (by decide) (hts (.fieldLink RX12 107 "CardsAtYuleModel" "thrown" "I") (List.mem_cons_of_mem _ (List.mem_append_left _ (List.mem_of_getElem? (i := 0) rfl)))) (fun _ h9 => h9) rfl (by decide +kernel) rfl rfl (Nat.le_of_ble_eq_true rfl) dX12_paste_2 (fun H locs hP hD hS => ?_)
  have hP : va_P g vwCl [(m, .inr (11, mG m_a 0 m_taped m_at m_token m_place m_value m_word m_bad m_badPlace m_fault m_faultPlace m_willing m_will m_forgot m_isDrawn m_x m_begin m_round m_roundCards m_fate m_any m_bothSend m_meanCards m_bestSum m_fitMany m_fitFirst m_fitSecond)), ((m_a 1), .inl (cI, 4, .inl m_width_c)), ((m_a 2), .inl (cI, 4, .inl m_many_c)), ((m_a 3), .inl (cJ, 240, .inr (.inl m_cells_c))), ((m_a 4), .inl (cJ, 60, .inr (.inl m_moved_c)))] H := hP
  have hD : va_D A [(m, .inr (11, mG m_a 0 m_taped m_at m_token m_place m_value m_word m_bad m_badPlace m_fault m_faultPlace m_willing m_will m_forgot m_isDrawn m_x m_begin m_round m_roundCards m_fate m_any m_bothSend m_meanCards m_bestSum m_fitMany m_fitFirst m_fitSecond)), ((m_a 1), .inl (cI, 4, .inl m_width_c)), ((m_a 2), .inl (cI, 4, .inl m_many_c)), ((m_a 3), .inl (cJ, 240, .inr (.inl m_cells_c))), ((m_a 4), .inl (cJ, 60, .inr (.inl m_moved_c)))] := hD
  refine lv_iload_n hx hb dX12_paste_5 rfl (lv_at hl 1 rfl) ?_
  refine ro_i (va_runS (As := [.int p0]) (rest := []) ⟨hx, hb, hml, hown, hts⟩ (q_X12_isSlot l g cI cJ cB cZ cL p0 H.size ) (va_cwS 1 hts (goodIn_app (g_3 (List.mem_cons_of_mem _ (List.mem_append_left _ (List.mem_of_getElem? (i := 1) rfl))) (List.mem_cons_of_mem _ (List.mem_append_left _ (List.mem_of_getElem? (i := 2) rfl))) (List.mem_cons_of_mem _ (List.mem_append_left _ (List.mem_of_getElem? (i := 3) rfl))) (by decide +kernel)) (goodIn_sub (fun _ h => List.mem_cons_of_mem _ (List.mem_append_right _ (List.mem_append_left _ h))) good_v_X12_isSlot)) rfl rfl rfl (by decide +kernel) ⟨Nat.le_of_ble_eq_true rfl, Nat.le_of_ble_eq_true rfl⟩) (ps_RO (wc := []) hK hP [] rfl) rfl rfl hl.1 rfl (lv_room (Nat.le_of_ble_eq_true rfl)) dX12_paste_6 ⟨Nat.le_of_ble_eq_true rfl, Nat.le_of_ble_eq_true rfl⟩) hS hA hP (fun r6 u6 H locs hw6 hP hS => ?_)
  have hw6_0 := hw6
  rcases hw6_0 with ⟨er6, fc6_0, fc6_1⟩ | er6
  rotate_left 1
  · subst er6
    refine lv_if_eq (tgt := 19) hx hb dX12_paste_9 (by decide) (fun _ => ?_) (fun c => absurd c (by decide))
    refine lv_bipush (v := (-2)) hx hb dX12_paste_19 (by decide) ?_
    subst hQ
    have hP9 := hP.sub (ws' := [(m, .inr (11, mG m_a 0 m_taped m_at m_token m_place m_value m_word m_bad m_badPlace m_fault m_faultPlace m_willing m_will m_forgot m_isDrawn m_x m_begin m_round m_roundCards m_fate m_any m_bothSend m_meanCards m_bestSum m_fitMany m_fitFirst m_fitSecond)), ((m_a 1), .inl (cI, 4, .inl m_width_c)), ((m_a 2), .inl (cI, 4, .inl m_many_c)), ((m_a 3), .inl (cJ, 240, .inr (.inl m_cells_c))), ((m_a 4), .inl (cJ, 60, .inr (.inl m_moved_c)))]) [0, 1, 2, 3, 4] rfl
    have hD9 := hD.sub (ws' := [(m, .inr (11, mG m_a 0 m_taped m_at m_token m_place m_value m_word m_bad m_badPlace m_fault m_faultPlace m_willing m_will m_forgot m_isDrawn m_x m_begin m_round m_roundCards m_fate m_any m_bothSend m_meanCards m_bestSum m_fitMany m_fitFirst m_fitSecond)), ((m_a 1), .inl (cI, 4, .inl m_width_c)), ((m_a 2), .inl (cI, 4, .inl m_many_c)), ((m_a 3), .inl (cJ, 240, .inr (.inl m_cells_c))), ((m_a 4), .inl (cJ, 60, .inr (.inl m_moved_c)))]) [0, 1, 2, 3, 4] (by decide) rfl
    exact W.iret (v := (-2)) hx hb hr (fun t ht hW => ⟨⟨(-2), (0, m_cells_c, m_moved_c), rfl, ⟨(show ir (0 : Int32).toInt 0 0 by decide), (show ir ((-2) : Int32).toInt (-8) 0 by decide)⟩, ⟨by rw [ht]; exact hP9, va_K.moved hW.alike hK, hD9⟩⟩, hS.F ht⟩) hS.2.2 dX12_paste_21
  subst er6
  have fc6_0 : 0 ≤ p0.toInt := fc6_0
  have r6_0b : ir p0.toInt 0 2147483647 := ir_leb fc6_0 (ir_c 0) (rg_all p0) (by decide)
  have fc6_1 : p0.toInt ≤ 3 := fc6_1
  have r6_1a : ir p0.toInt 0 3 := ir_lea fc6_1 r6_0b (ir_c 3) (by decide)
  refine lv_if_eq (tgt := 19) hx hb dX12_paste_9 (by decide) (fun c => absurd c (by decide)) (fun _ => ?_)
  refine lv_iload_n hx hb dX12_paste_12 rfl (lv_at hl 3 rfl) ?_
  refine ro_i (va_runS (As := [.int p2]) (rest := []) ⟨hx, hb, hml, hown, hts⟩ (q_X12_isSlot l g cI cJ cB cZ cL p2 H.size ) (va_cwS 1 hts (goodIn_app (g_3 (List.mem_cons_of_mem _ (List.mem_append_left _ (List.mem_of_getElem? (i := 1) rfl))) (List.mem_cons_of_mem _ (List.mem_append_left _ (List.mem_of_getElem? (i := 2) rfl))) (List.mem_cons_of_mem _ (List.mem_append_left _ (List.mem_of_getElem? (i := 3) rfl))) (by decide +kernel)) (goodIn_sub (fun _ h => List.mem_cons_of_mem _ (List.mem_append_right _ (List.mem_append_left _ h))) good_v_X12_isSlot)) rfl rfl rfl (by decide +kernel) ⟨Nat.le_of_ble_eq_true rfl, Nat.le_of_ble_eq_true rfl⟩) (ps_RO (wc := []) hK hP [] rfl) rfl rfl hl.1 rfl (lv_room (Nat.le_of_ble_eq_true rfl)) dX12_paste_13 ⟨Nat.le_of_ble_eq_true rfl, Nat.le_of_ble_eq_true rfl⟩) hS hA hP (fun r13 u13 H locs hw13 hP hS => ?_)
  have hw13_0 := hw13
  rcases hw13_0 with ⟨er13, fc13_0, fc13_1⟩ | er13
  rotate_left 1
  · subst er13
    refine lv_if_ne (tgt := 22) hx hb dX12_paste_16 (by decide) (fun c => absurd c (by decide)) (fun _ => ?_)
    refine lv_bipush (v := (-2)) hx hb dX12_paste_19 (by decide) ?_
    subst hQ
    have hP9 := hP.sub (ws' := [(m, .inr (11, mG m_a 0 m_taped m_at m_token m_place m_value m_word m_bad m_badPlace m_fault m_faultPlace m_willing m_will m_forgot m_isDrawn m_x m_begin m_round m_roundCards m_fate m_any m_bothSend m_meanCards m_bestSum m_fitMany m_fitFirst m_fitSecond)), ((m_a 1), .inl (cI, 4, .inl m_width_c)), ((m_a 2), .inl (cI, 4, .inl m_many_c)), ((m_a 3), .inl (cJ, 240, .inr (.inl m_cells_c))), ((m_a 4), .inl (cJ, 60, .inr (.inl m_moved_c)))]) [0, 1, 2, 3, 4] rfl
    have hD9 := hD.sub (ws' := [(m, .inr (11, mG m_a 0 m_taped m_at m_token m_place m_value m_word m_bad m_badPlace m_fault m_faultPlace m_willing m_will m_forgot m_isDrawn m_x m_begin m_round m_roundCards m_fate m_any m_bothSend m_meanCards m_bestSum m_fitMany m_fitFirst m_fitSecond)), ((m_a 1), .inl (cI, 4, .inl m_width_c)), ((m_a 2), .inl (cI, 4, .inl m_many_c)), ((m_a 3), .inl (cJ, 240, .inr (.inl m_cells_c))), ((m_a 4), .inl (cJ, 60, .inr (.inl m_moved_c)))]) [0, 1, 2, 3, 4] (by decide) rfl
    exact W.iret (v := (-2)) hx hb hr (fun t ht hW => ⟨⟨(-2), (0, m_cells_c, m_moved_c), rfl, ⟨(show ir (0 : Int32).toInt 0 0 by decide), (show ir ((-2) : Int32).toInt (-8) 0 by decide)⟩, ⟨by rw [ht]; exact hP9, va_K.moved hW.alike hK, hD9⟩⟩, hS.F ht⟩) hS.2.2 dX12_paste_21
  subst er13
  have fc13_0 : 0 ≤ p2.toInt := fc13_0
  have r13_0b : ir p2.toInt 0 2147483647 := ir_leb fc13_0 (ir_c 0) (rg_all p2) (by decide)
  have fc13_1 : p2.toInt ≤ 3 := fc13_1
  have r13_1a : ir p2.toInt 0 3 := ir_lea fc13_1 r13_0b (ir_c 3) (by decide)
  refine lv_if_ne (tgt := 22) hx hb dX12_paste_16 (by decide) (fun _ => ?_) (fun c => absurd c (by decide))
  refine lv_aload_n hx hb dX12_paste_22 rfl (lv_at hl 0 rfl) ?_
  refine va_get (D := g) (ci := 11) (v := .ref (m_a 1)) (C := RX12) (T := TX12) (N := 56) hx hb hts iX12 hown hK hP 0 rfl rfl 1 (by decide) (hts (.fieldLink RX12 7 "CardsAtYuleModel" "width" "[I") (List.mem_cons_of_mem _ (List.mem_append_left _ (List.mem_of_getElem? (i := 4) rfl)))) (fun _ h9 => h9) rfl dX12_paste_23 ?_
  refine lv_iload_n hx hb dX12_paste_26 rfl (lv_at hl 1 rfl) ?_
  refine va_iald (D := g) hx hb hK hP 1 0 rfl rfl (vi_rg rfl r6_1a (by decide) (by decide)) dX12_paste_27 ?_
  refine lv_topi (fun y27 e27 => ?_)
  refine lv_iconst (v := (-1)) hx hb dX12_paste_28 (by decide) ?_
  refine lv_icmp_eq (tgt := 42) hx hb dX12_paste_29 (by decide) (fun c29 => ?_) (fun c29 => ?_)
  · have f29 := (show y27.toInt = (-1) from z_eq rfl rfl c29)
    have r29a : ir y27.toInt (-1) (-1) := ir_eqa f29 (rg_all y27) (ir_c (-1)) (by decide) (by decide)
    refine lv_bipush (v := (-6)) hx hb dX12_paste_42 (by decide) ?_
    subst hQ
    have hP9 := hP.sub (ws' := [(m, .inr (11, mG m_a 0 m_taped m_at m_token m_place m_value m_word m_bad m_badPlace m_fault m_faultPlace m_willing m_will m_forgot m_isDrawn m_x m_begin m_round m_roundCards m_fate m_any m_bothSend m_meanCards m_bestSum m_fitMany m_fitFirst m_fitSecond)), ((m_a 1), .inl (cI, 4, .inl m_width_c)), ((m_a 2), .inl (cI, 4, .inl m_many_c)), ((m_a 3), .inl (cJ, 240, .inr (.inl m_cells_c))), ((m_a 4), .inl (cJ, 60, .inr (.inl m_moved_c)))]) [0, 1, 2, 3, 4] rfl
    have hD9 := hD.sub (ws' := [(m, .inr (11, mG m_a 0 m_taped m_at m_token m_place m_value m_word m_bad m_badPlace m_fault m_faultPlace m_willing m_will m_forgot m_isDrawn m_x m_begin m_round m_roundCards m_fate m_any m_bothSend m_meanCards m_bestSum m_fitMany m_fitFirst m_fitSecond)), ((m_a 1), .inl (cI, 4, .inl m_width_c)), ((m_a 2), .inl (cI, 4, .inl m_many_c)), ((m_a 3), .inl (cJ, 240, .inr (.inl m_cells_c))), ((m_a 4), .inl (cJ, 60, .inr (.inl m_moved_c)))]) [0, 1, 2, 3, 4] (by decide) rfl
    exact W.iret (v := (-6)) hx hb hr (fun t ht hW => ⟨⟨(-6), (0, m_cells_c, m_moved_c), rfl, ⟨(show ir (0 : Int32).toInt 0 0 by decide), (show ir ((-6) : Int32).toInt (-8) 0 by decide)⟩, ⟨by rw [ht]; exact hP9, va_K.moved hW.alike hK, hD9⟩⟩, hS.F ht⟩) hS.2.2 dX12_paste_44
  have f29 := (show y27.toInt ≠ (-1) from z_ne rfl rfl c29)
  refine lv_aload_n hx hb dX12_paste_32 rfl (lv_at hl 0 rfl) ?_
  refine va_get (D := g) (ci := 11) (v := .ref (m_a 1)) (C := RX12) (T := TX12) (N := 56) hx hb hts iX12 hown hK hP 0 rfl rfl 1 (by decide) (hts (.fieldLink RX12 7 "CardsAtYuleModel" "width" "[I") (List.mem_cons_of_mem _ (List.mem_append_left _ (List.mem_of_getElem? (i := 4) rfl)))) (fun _ h9 => h9) rfl dX12_paste_33 ?_
  refine lv_iload_n hx hb dX12_paste_36 rfl (lv_at hl 3 rfl) ?_
  refine va_iald (D := g) hx hb hK hP 1 0 rfl rfl (vi_rg rfl r13_1a (by decide) (by decide)) dX12_paste_37 ?_
  refine lv_topi (fun y37 e37 => ?_)
  refine lv_iconst (v := (-1)) hx hb dX12_paste_38 (by decide) ?_
  refine lv_icmp_ne (tgt := 45) hx hb dX12_paste_39 (by decide) (fun c39 => ?_) (fun c39 => ?_)
  rotate_left 1
  · have f39 := (show y37.toInt = (-1) from z_eq rfl rfl c39)
    have r39a : ir y37.toInt (-1) (-1) := ir_eqa f39 (rg_all y37) (ir_c (-1)) (by decide) (by decide)
    refine lv_bipush (v := (-6)) hx hb dX12_paste_42 (by decide) ?_
    subst hQ
    have hP9 := hP.sub (ws' := [(m, .inr (11, mG m_a 0 m_taped m_at m_token m_place m_value m_word m_bad m_badPlace m_fault m_faultPlace m_willing m_will m_forgot m_isDrawn m_x m_begin m_round m_roundCards m_fate m_any m_bothSend m_meanCards m_bestSum m_fitMany m_fitFirst m_fitSecond)), ((m_a 1), .inl (cI, 4, .inl m_width_c)), ((m_a 2), .inl (cI, 4, .inl m_many_c)), ((m_a 3), .inl (cJ, 240, .inr (.inl m_cells_c))), ((m_a 4), .inl (cJ, 60, .inr (.inl m_moved_c)))]) [0, 1, 2, 3, 4] rfl
    have hD9 := hD.sub (ws' := [(m, .inr (11, mG m_a 0 m_taped m_at m_token m_place m_value m_word m_bad m_badPlace m_fault m_faultPlace m_willing m_will m_forgot m_isDrawn m_x m_begin m_round m_roundCards m_fate m_any m_bothSend m_meanCards m_bestSum m_fitMany m_fitFirst m_fitSecond)), ((m_a 1), .inl (cI, 4, .inl m_width_c)), ((m_a 2), .inl (cI, 4, .inl m_many_c)), ((m_a 3), .inl (cJ, 240, .inr (.inl m_cells_c))), ((m_a 4), .inl (cJ, 60, .inr (.inl m_moved_c)))]) [0, 1, 2, 3, 4] (by decide) rfl
    exact W.iret (v := (-6)) hx hb hr (fun t ht hW => ⟨⟨(-6), (0, m_cells_c, m_moved_c), rfl, ⟨(show ir (0 : Int32).toInt 0 0 by decide), (show ir ((-6) : Int32).toInt (-8) 0 by decide)⟩, ⟨by rw [ht]; exact hP9, va_K.moved hW.alike hK, hD9⟩⟩, hS.F ht⟩) hS.2.2 dX12_paste_44
  have f39 := (show y37.toInt ≠ (-1) from z_ne rfl rfl c39)
  refine lv_aload_n hx hb dX12_paste_45 rfl (lv_at hl 0 rfl) ?_
  refine va_get (D := g) (ci := 11) (v := .ref (m_a 1)) (C := RX12) (T := TX12) (N := 56) hx hb hts iX12 hown hK hP 0 rfl rfl 1 (by decide) (hts (.fieldLink RX12 7 "CardsAtYuleModel" "width" "[I") (List.mem_cons_of_mem _ (List.mem_append_left _ (List.mem_of_getElem? (i := 4) rfl)))) (fun _ h9 => h9) rfl dX12_paste_46 ?_
  refine lv_iload_n hx hb dX12_paste_49 rfl (lv_at hl 1 rfl) ?_
  refine va_iald (D := g) hx hb hK hP 1 0 rfl rfl (vi_rg rfl r6_1a (by decide) (by decide)) dX12_paste_50 ?_
  refine lv_topi (fun y50 e50 => ?_)
  refine lv_aload_n hx hb dX12_paste_51 rfl (lv_at hl 0 rfl) ?_
  refine va_get (D := g) (ci := 11) (v := .ref (m_a 1)) (C := RX12) (T := TX12) (N := 56) hx hb hts iX12 hown hK hP 0 rfl rfl 1 (by decide) (hts (.fieldLink RX12 7 "CardsAtYuleModel" "width" "[I") (List.mem_cons_of_mem _ (List.mem_append_left _ (List.mem_of_getElem? (i := 4) rfl)))) (fun _ h9 => h9) rfl dX12_paste_52 ?_
  refine lv_iload_n hx hb dX12_paste_55 rfl (lv_at hl 3 rfl) ?_
  refine va_iald (D := g) hx hb hK hP 1 0 rfl rfl (vi_rg rfl r13_1a (by decide) (by decide)) dX12_paste_56 ?_
  refine lv_topi (fun y56 e56 => ?_)
  refine lv_icmp_eq (tgt := 63) hx hb dX12_paste_57 (by decide) (fun c57 => ?_) (fun c57 => ?_)
  rotate_left 1
  · have f57 := (show y50.toInt ≠ y56.toInt from z_ne rfl rfl c57)
    refine lv_bipush (v := (-8)) hx hb dX12_paste_60 (by decide) ?_
    subst hQ
    have hP9 := hP.sub (ws' := [(m, .inr (11, mG m_a 0 m_taped m_at m_token m_place m_value m_word m_bad m_badPlace m_fault m_faultPlace m_willing m_will m_forgot m_isDrawn m_x m_begin m_round m_roundCards m_fate m_any m_bothSend m_meanCards m_bestSum m_fitMany m_fitFirst m_fitSecond)), ((m_a 1), .inl (cI, 4, .inl m_width_c)), ((m_a 2), .inl (cI, 4, .inl m_many_c)), ((m_a 3), .inl (cJ, 240, .inr (.inl m_cells_c))), ((m_a 4), .inl (cJ, 60, .inr (.inl m_moved_c)))]) [0, 1, 2, 3, 4] rfl
    have hD9 := hD.sub (ws' := [(m, .inr (11, mG m_a 0 m_taped m_at m_token m_place m_value m_word m_bad m_badPlace m_fault m_faultPlace m_willing m_will m_forgot m_isDrawn m_x m_begin m_round m_roundCards m_fate m_any m_bothSend m_meanCards m_bestSum m_fitMany m_fitFirst m_fitSecond)), ((m_a 1), .inl (cI, 4, .inl m_width_c)), ((m_a 2), .inl (cI, 4, .inl m_many_c)), ((m_a 3), .inl (cJ, 240, .inr (.inl m_cells_c))), ((m_a 4), .inl (cJ, 60, .inr (.inl m_moved_c)))]) [0, 1, 2, 3, 4] (by decide) rfl
    exact W.iret (v := (-8)) hx hb hr (fun t ht hW => ⟨⟨(-8), (0, m_cells_c, m_moved_c), rfl, ⟨(show ir (0 : Int32).toInt 0 0 by decide), (show ir ((-8) : Int32).toInt (-8) 0 by decide)⟩, ⟨by rw [ht]; exact hP9, va_K.moved hW.alike hK, hD9⟩⟩, hS.F ht⟩) hS.2.2 dX12_paste_62
  have f57 := (show y50.toInt = y56.toInt from z_eq rfl rfl c57)
  refine lv_iload_n hx hb dX12_paste_63 rfl (lv_at hl 2 rfl) ?_
  refine lv_if_lt (tgt := 112) hx hb dX12_paste_64 (by decide) (fun c64 => ?_) (fun c64 => ?_)
  · have f64 := (show p1.toInt < 0 from z_lt rfl rfl c64)
    have r64a : ir p1.toInt (-2147483648) (-1) := ir_lta f64 (rg_all p1) (ir_c 0) (by decide)
    refine lv_bipush (v := (-7)) hx hb dX12_paste_112 (by decide) ?_
    subst hQ
    have hP9 := hP.sub (ws' := [(m, .inr (11, mG m_a 0 m_taped m_at m_token m_place m_value m_word m_bad m_badPlace m_fault m_faultPlace m_willing m_will m_forgot m_isDrawn m_x m_begin m_round m_roundCards m_fate m_any m_bothSend m_meanCards m_bestSum m_fitMany m_fitFirst m_fitSecond)), ((m_a 1), .inl (cI, 4, .inl m_width_c)), ((m_a 2), .inl (cI, 4, .inl m_many_c)), ((m_a 3), .inl (cJ, 240, .inr (.inl m_cells_c))), ((m_a 4), .inl (cJ, 60, .inr (.inl m_moved_c)))]) [0, 1, 2, 3, 4] rfl
    have hD9 := hD.sub (ws' := [(m, .inr (11, mG m_a 0 m_taped m_at m_token m_place m_value m_word m_bad m_badPlace m_fault m_faultPlace m_willing m_will m_forgot m_isDrawn m_x m_begin m_round m_roundCards m_fate m_any m_bothSend m_meanCards m_bestSum m_fitMany m_fitFirst m_fitSecond)), ((m_a 1), .inl (cI, 4, .inl m_width_c)), ((m_a 2), .inl (cI, 4, .inl m_many_c)), ((m_a 3), .inl (cJ, 240, .inr (.inl m_cells_c))), ((m_a 4), .inl (cJ, 60, .inr (.inl m_moved_c)))]) [0, 1, 2, 3, 4] (by decide) rfl
    exact W.iret (v := (-7)) hx hb hr (fun t ht hW => ⟨⟨(-7), (0, m_cells_c, m_moved_c), rfl, ⟨(show ir (0 : Int32).toInt 0 0 by decide), (show ir ((-7) : Int32).toInt (-8) 0 by decide)⟩, ⟨by rw [ht]; exact hP9, va_K.moved hW.alike hK, hD9⟩⟩, hS.F ht⟩) hS.2.2 dX12_paste_114
  have f64 := (show 0 ≤ p1.toInt from z_nlt rfl rfl c64)
  have r64a : ir p1.toInt 0 2147483647 := ir_leb f64 (ir_c 0) (rg_all p1) (by decide)
  refine lv_iload hx hb dX12_paste_67 (lv_at hl 4 rfl) ?_
  refine lv_if_lt (tgt := 112) hx hb dX12_paste_69 (by decide) (fun c69 => ?_) (fun c69 => ?_)
  · have f69 := (show p3.toInt < 0 from z_lt rfl rfl c69)
    have r69a : ir p3.toInt (-2147483648) (-1) := ir_lta f69 (rg_all p3) (ir_c 0) (by decide)
    refine lv_bipush (v := (-7)) hx hb dX12_paste_112 (by decide) ?_
    subst hQ
    have hP9 := hP.sub (ws' := [(m, .inr (11, mG m_a 0 m_taped m_at m_token m_place m_value m_word m_bad m_badPlace m_fault m_faultPlace m_willing m_will m_forgot m_isDrawn m_x m_begin m_round m_roundCards m_fate m_any m_bothSend m_meanCards m_bestSum m_fitMany m_fitFirst m_fitSecond)), ((m_a 1), .inl (cI, 4, .inl m_width_c)), ((m_a 2), .inl (cI, 4, .inl m_many_c)), ((m_a 3), .inl (cJ, 240, .inr (.inl m_cells_c))), ((m_a 4), .inl (cJ, 60, .inr (.inl m_moved_c)))]) [0, 1, 2, 3, 4] rfl
    have hD9 := hD.sub (ws' := [(m, .inr (11, mG m_a 0 m_taped m_at m_token m_place m_value m_word m_bad m_badPlace m_fault m_faultPlace m_willing m_will m_forgot m_isDrawn m_x m_begin m_round m_roundCards m_fate m_any m_bothSend m_meanCards m_bestSum m_fitMany m_fitFirst m_fitSecond)), ((m_a 1), .inl (cI, 4, .inl m_width_c)), ((m_a 2), .inl (cI, 4, .inl m_many_c)), ((m_a 3), .inl (cJ, 240, .inr (.inl m_cells_c))), ((m_a 4), .inl (cJ, 60, .inr (.inl m_moved_c)))]) [0, 1, 2, 3, 4] (by decide) rfl
    exact W.iret (v := (-7)) hx hb hr (fun t ht hW => ⟨⟨(-7), (0, m_cells_c, m_moved_c), rfl, ⟨(show ir (0 : Int32).toInt 0 0 by decide), (show ir ((-7) : Int32).toInt (-8) 0 by decide)⟩, ⟨by rw [ht]; exact hP9, va_K.moved hW.alike hK, hD9⟩⟩, hS.F ht⟩) hS.2.2 dX12_paste_114
  have f69 := (show 0 ≤ p3.toInt from z_nlt rfl rfl c69)
  have r69a : ir p3.toInt 0 2147483647 := ir_leb f69 (ir_c 0) (rg_all p3) (by decide)
  refine lv_iload hx hb dX12_paste_72 (lv_at hl 5 rfl) ?_
  refine lv_if_lt (tgt := 112) hx hb dX12_paste_74 (by decide) (fun c74 => ?_) (fun c74 => ?_)
  · have f74 := (show p4.toInt < 0 from z_lt rfl rfl c74)
    have r74a : ir p4.toInt (-2147483648) (-1) := ir_lta f74 (rg_all p4) (ir_c 0) (by decide)
    refine lv_bipush (v := (-7)) hx hb dX12_paste_112 (by decide) ?_
    subst hQ
    have hP9 := hP.sub (ws' := [(m, .inr (11, mG m_a 0 m_taped m_at m_token m_place m_value m_word m_bad m_badPlace m_fault m_faultPlace m_willing m_will m_forgot m_isDrawn m_x m_begin m_round m_roundCards m_fate m_any m_bothSend m_meanCards m_bestSum m_fitMany m_fitFirst m_fitSecond)), ((m_a 1), .inl (cI, 4, .inl m_width_c)), ((m_a 2), .inl (cI, 4, .inl m_many_c)), ((m_a 3), .inl (cJ, 240, .inr (.inl m_cells_c))), ((m_a 4), .inl (cJ, 60, .inr (.inl m_moved_c)))]) [0, 1, 2, 3, 4] rfl
    have hD9 := hD.sub (ws' := [(m, .inr (11, mG m_a 0 m_taped m_at m_token m_place m_value m_word m_bad m_badPlace m_fault m_faultPlace m_willing m_will m_forgot m_isDrawn m_x m_begin m_round m_roundCards m_fate m_any m_bothSend m_meanCards m_bestSum m_fitMany m_fitFirst m_fitSecond)), ((m_a 1), .inl (cI, 4, .inl m_width_c)), ((m_a 2), .inl (cI, 4, .inl m_many_c)), ((m_a 3), .inl (cJ, 240, .inr (.inl m_cells_c))), ((m_a 4), .inl (cJ, 60, .inr (.inl m_moved_c)))]) [0, 1, 2, 3, 4] (by decide) rfl
    exact W.iret (v := (-7)) hx hb hr (fun t ht hW => ⟨⟨(-7), (0, m_cells_c, m_moved_c), rfl, ⟨(show ir (0 : Int32).toInt 0 0 by decide), (show ir ((-7) : Int32).toInt (-8) 0 by decide)⟩, ⟨by rw [ht]; exact hP9, va_K.moved hW.alike hK, hD9⟩⟩, hS.F ht⟩) hS.2.2 dX12_paste_114
  have f74 := (show 0 ≤ p4.toInt from z_nlt rfl rfl c74)
  have r74a : ir p4.toInt 0 2147483647 := ir_leb f74 (ir_c 0) (rg_all p4) (by decide)
  refine lv_iload_n hx hb dX12_paste_77 rfl (lv_at hl 2 rfl) ?_
  refine lv_i2l (v := p1.toInt64) hx hb dX12_paste_78 rfl ?_
  refine lv_iload hx hb dX12_paste_79 (lv_at hl 5 rfl) ?_
  refine lv_i2l (v := p4.toInt64) hx hb dX12_paste_81 rfl ?_
  refine lv_ladd hx hb dX12_paste_82 ?_
  refine lv_topl (fun y82 e82 => ?_)
  have q82 : y82.toInt = p1.toInt + p4.toInt := by rw [e82]; exact lad_z (z_i2l rfl) (z_i2l rfl) r64a r74a (by decide) (by decide)
  have r82 : ir y82.toInt 0 4294967294 := ad_r q82 r64a r74a (by decide) (by decide)
  refine lv_aload_n hx hb dX12_paste_83 rfl (lv_at hl 0 rfl) ?_
  refine va_get (D := g) (ci := 11) (v := .ref (m_a 2)) (C := RX12) (T := TX12) (N := 56) hx hb hts iX12 hown hK hP 0 rfl rfl 2 (by decide) (hts (.fieldLink RX12 13 "CardsAtYuleModel" "many" "[I") (List.mem_cons_of_mem _ (List.mem_append_left _ (List.mem_of_getElem? (i := 5) rfl)))) (fun _ h9 => h9) rfl dX12_paste_84 ?_
  refine lv_iload_n hx hb dX12_paste_87 rfl (lv_at hl 1 rfl) ?_
  refine va_iald (D := g) hx hb hK hP 2 0 rfl rfl (vi_rg rfl r6_1a (by decide) (by decide)) dX12_paste_88 ?_
  refine lv_topi (fun y88 e88 => ?_)
  have r88 : ir y88.toInt 0 60 := by rw [e88]; exact ha_m_many_c _ (vi_cl (vi_rg rfl r6_1a (by decide) (by decide)))
  refine lv_i2l (v := y88.toInt64) hx hb dX12_paste_89 rfl ?_
  refine W.lcmp hx hb dX12_paste_90 ?_
  refine lv_if_gt (tgt := 112) hx hb dX12_paste_91 (by decide) (fun c91 => ?_) (fun c91 => ?_)
  · have f91 := (show y88.toInt < y82.toInt from y_gt rfl (z_i2l rfl) c91)
    have r91a : ir y82.toInt 1 4294967294 := ir_ltb f91 r88 r82 (by decide)
    refine lv_bipush (v := (-7)) hx hb dX12_paste_112 (by decide) ?_
    subst hQ
    have hP9 := hP.sub (ws' := [(m, .inr (11, mG m_a 0 m_taped m_at m_token m_place m_value m_word m_bad m_badPlace m_fault m_faultPlace m_willing m_will m_forgot m_isDrawn m_x m_begin m_round m_roundCards m_fate m_any m_bothSend m_meanCards m_bestSum m_fitMany m_fitFirst m_fitSecond)), ((m_a 1), .inl (cI, 4, .inl m_width_c)), ((m_a 2), .inl (cI, 4, .inl m_many_c)), ((m_a 3), .inl (cJ, 240, .inr (.inl m_cells_c))), ((m_a 4), .inl (cJ, 60, .inr (.inl m_moved_c)))]) [0, 1, 2, 3, 4] rfl
    have hD9 := hD.sub (ws' := [(m, .inr (11, mG m_a 0 m_taped m_at m_token m_place m_value m_word m_bad m_badPlace m_fault m_faultPlace m_willing m_will m_forgot m_isDrawn m_x m_begin m_round m_roundCards m_fate m_any m_bothSend m_meanCards m_bestSum m_fitMany m_fitFirst m_fitSecond)), ((m_a 1), .inl (cI, 4, .inl m_width_c)), ((m_a 2), .inl (cI, 4, .inl m_many_c)), ((m_a 3), .inl (cJ, 240, .inr (.inl m_cells_c))), ((m_a 4), .inl (cJ, 60, .inr (.inl m_moved_c)))]) [0, 1, 2, 3, 4] (by decide) rfl
    exact W.iret (v := (-7)) hx hb hr (fun t ht hW => ⟨⟨(-7), (0, m_cells_c, m_moved_c), rfl, ⟨(show ir (0 : Int32).toInt 0 0 by decide), (show ir ((-7) : Int32).toInt (-8) 0 by decide)⟩, ⟨by rw [ht]; exact hP9, va_K.moved hW.alike hK, hD9⟩⟩, hS.F ht⟩) hS.2.2 dX12_paste_114
  have f91 := (show y82.toInt ≤ y88.toInt from y_ngt rfl (z_i2l rfl) c91)
  have r91a : ir y82.toInt 0 60 := ir_lea f91 r82 r88 (by decide)
  refine lv_iload hx hb dX12_paste_94 (lv_at hl 4 rfl) ?_
  refine lv_i2l (v := p3.toInt64) hx hb dX12_paste_96 rfl ?_
  refine lv_iload hx hb dX12_paste_97 (lv_at hl 5 rfl) ?_
  refine lv_i2l (v := p4.toInt64) hx hb dX12_paste_99 rfl ?_
  refine lv_ladd hx hb dX12_paste_100 ?_
  refine lv_topl (fun y100 e100 => ?_)
  have q100 : y100.toInt = p3.toInt + p4.toInt := by rw [e100]; exact lad_z (z_i2l rfl) (z_i2l rfl) r69a r74a (by decide) (by decide)
  have r100 : ir y100.toInt 0 4294967294 := ad_r q100 r69a r74a (by decide) (by decide)
  refine lv_aload_n hx hb dX12_paste_101 rfl (lv_at hl 0 rfl) ?_
  refine va_get (D := g) (ci := 11) (v := .ref (m_a 2)) (C := RX12) (T := TX12) (N := 56) hx hb hts iX12 hown hK hP 0 rfl rfl 2 (by decide) (hts (.fieldLink RX12 13 "CardsAtYuleModel" "many" "[I") (List.mem_cons_of_mem _ (List.mem_append_left _ (List.mem_of_getElem? (i := 5) rfl)))) (fun _ h9 => h9) rfl dX12_paste_102 ?_
  refine lv_iload_n hx hb dX12_paste_105 rfl (lv_at hl 3 rfl) ?_
  refine va_iald (D := g) hx hb hK hP 2 0 rfl rfl (vi_rg rfl r13_1a (by decide) (by decide)) dX12_paste_106 ?_
  refine lv_topi (fun y106 e106 => ?_)
  have r106 : ir y106.toInt 0 60 := by rw [e106]; exact ha_m_many_c _ (vi_cl (vi_rg rfl r13_1a (by decide) (by decide)))
  refine lv_i2l (v := y106.toInt64) hx hb dX12_paste_107 rfl ?_
  refine W.lcmp hx hb dX12_paste_108 ?_
  refine lv_if_le (tgt := 115) hx hb dX12_paste_109 (by decide) (fun c109 => ?_) (fun c109 => ?_)
  rotate_left 1
  · have f109 := (show y106.toInt < y100.toInt from y_nle rfl (z_i2l rfl) c109)
    have r109a : ir y100.toInt 1 4294967294 := ir_ltb f109 r106 r100 (by decide)
    refine lv_bipush (v := (-7)) hx hb dX12_paste_112 (by decide) ?_
    subst hQ
    have hP9 := hP.sub (ws' := [(m, .inr (11, mG m_a 0 m_taped m_at m_token m_place m_value m_word m_bad m_badPlace m_fault m_faultPlace m_willing m_will m_forgot m_isDrawn m_x m_begin m_round m_roundCards m_fate m_any m_bothSend m_meanCards m_bestSum m_fitMany m_fitFirst m_fitSecond)), ((m_a 1), .inl (cI, 4, .inl m_width_c)), ((m_a 2), .inl (cI, 4, .inl m_many_c)), ((m_a 3), .inl (cJ, 240, .inr (.inl m_cells_c))), ((m_a 4), .inl (cJ, 60, .inr (.inl m_moved_c)))]) [0, 1, 2, 3, 4] rfl
    have hD9 := hD.sub (ws' := [(m, .inr (11, mG m_a 0 m_taped m_at m_token m_place m_value m_word m_bad m_badPlace m_fault m_faultPlace m_willing m_will m_forgot m_isDrawn m_x m_begin m_round m_roundCards m_fate m_any m_bothSend m_meanCards m_bestSum m_fitMany m_fitFirst m_fitSecond)), ((m_a 1), .inl (cI, 4, .inl m_width_c)), ((m_a 2), .inl (cI, 4, .inl m_many_c)), ((m_a 3), .inl (cJ, 240, .inr (.inl m_cells_c))), ((m_a 4), .inl (cJ, 60, .inr (.inl m_moved_c)))]) [0, 1, 2, 3, 4] (by decide) rfl
    exact W.iret (v := (-7)) hx hb hr (fun t ht hW => ⟨⟨(-7), (0, m_cells_c, m_moved_c), rfl, ⟨(show ir (0 : Int32).toInt 0 0 by decide), (show ir ((-7) : Int32).toInt (-8) 0 by decide)⟩, ⟨by rw [ht]; exact hP9, va_K.moved hW.alike hK, hD9⟩⟩, hS.F ht⟩) hS.2.2 dX12_paste_114
  have f109 := (show y100.toInt ≤ y106.toInt from y_le rfl (z_i2l rfl) c109)
  have r109a : ir y100.toInt 0 60 := ir_lea f109 r100 r106 (by decide)
  have rw115_l2 : ir p1.toInt 0 60 := by omega
  have rw115_l4 : ir p3.toInt 0 60 := by omega
  have rw115_l5 : ir p4.toInt 0 60 := by omega
  refine lv_iconst (v := 0) hx hb dX12_paste_115 (by decide) ?_
  refine lv_istore (lv' := [(6, .int 0), (0, .ref m), (1, .int p0), (2, .int p1), (3, .int p2), (4, .int p3), (5, .int p4)]) hx hb dX12_paste_116 hl (by decide) rfl (fun ls hl => ?_)
  have J118 : ∀ (n118 : Nat) (j118_l6 : Int32) (j118_m_a4_c : Nat → Int64) (H : Heap) (locs : List Loc) (ls : Array Slot), (61 - j118_l6.toInt).toNat < n118 → (ir j118_l6.toInt 0 60) → va_P g vwCl [(m, .inr (11, mG m_a 0 m_taped m_at m_token m_place m_value m_word m_bad m_badPlace m_fault m_faultPlace m_willing m_will m_forgot m_isDrawn m_x m_begin m_round m_roundCards m_fate m_any m_bothSend m_meanCards m_bestSum m_fitMany m_fitFirst m_fitSecond)), ((m_a 1), .inl (cI, 4, .inl m_width_c)), ((m_a 2), .inl (cI, 4, .inl m_many_c)), ((m_a 3), .inl (cJ, 240, .inr (.inl m_cells_c))), ((m_a 4), .inl (cJ, 60, .inr (.inl j118_m_a4_c)))] H → va_D A [(m, .inr (11, mG m_a 0 m_taped m_at m_token m_place m_value m_word m_bad m_badPlace m_fault m_faultPlace m_willing m_will m_forgot m_isDrawn m_x m_begin m_round m_roundCards m_fate m_any m_bothSend m_meanCards m_bestSum m_fitMany m_fitFirst m_fitSecond)), ((m_a 1), .inl (cI, 4, .inl m_width_c)), ((m_a 2), .inl (cI, 4, .inl m_many_c)), ((m_a 3), .inl (cJ, 240, .inr (.inl m_cells_c))), ((m_a 4), .inl (cJ, 60, .inr (.inl j118_m_a4_c)))] → va_S A s.heap H locs → lv_has ls 7 [(0, .ref m), (1, .int p0), (2, .int p1), (3, .int p2), (4, .int p3), (5, .int p4), (6, .int j118_l6)] → W p l e (headSpec v_X12_paste ({ frames := 2, cells := 0, slots := 0, locals := 45 })).room s mth av below meth c H locs 0 0 QQ (F0 mth 118 ls []) := by
    intro n118
    induction n118 with
    | zero => exact fun j118_l6 j118_m_a4_c H locs ls hn => absurd hn (Nat.not_lt_zero _)
    | succ n118 ih118 =>
      intro j118_l6 j118_m_a4_c H locs ls hn118 hj118_l6 hP hD hS hl
      refine lv_iload hx hb dX12_paste_118 (lv_at hl 6 rfl) ?_
      refine lv_iload hx hb dX12_paste_120 (lv_at hl 5 rfl) ?_
      refine lv_icmp_ge (tgt := 152) hx hb dX12_paste_122 (by decide) (fun c122 => ?_) (fun c122 => ?_)
      rotate_left 1
      · have f122 := (show j118_l6.toInt < p4.toInt from z_nle rfl rfl c122)
        have r122a : ir j118_l6.toInt 0 59 := ir_lta f122 hj118_l6 rw115_l5 (by decide)
        have r122b : ir p4.toInt 1 60 := ir_ltb f122 hj118_l6 rw115_l5 (by decide)
        refine lv_aload_n hx hb dX12_paste_125 rfl (lv_at hl 0 rfl) ?_
        refine va_get (D := g) (ci := 11) (v := .ref (m_a 4)) (C := RX12) (T := TX12) (N := 56) hx hb hts iX12 hown hK hP 0 rfl rfl 4 (by decide) (hts (.fieldLink RX12 20 "CardsAtYuleModel" "moved" "[J") (List.mem_cons_of_mem _ (List.mem_append_left _ (List.mem_of_getElem? (i := 7) rfl)))) (fun _ h9 => h9) rfl dX12_paste_126 ?_
        refine lv_iload hx hb dX12_paste_129 (lv_at hl 6 rfl) ?_
        refine lv_aload_n hx hb dX12_paste_131 rfl (lv_at hl 0 rfl) ?_
        refine va_get (D := g) (ci := 11) (v := .ref (m_a 3)) (C := RX12) (T := TX12) (N := 56) hx hb hts iX12 hown hK hP 0 rfl rfl 3 (by decide) (hts (.fieldLink RX12 16 "CardsAtYuleModel" "cells" "[J") (List.mem_cons_of_mem _ (List.mem_append_left _ (List.mem_of_getElem? (i := 6) rfl)))) (fun _ h9 => h9) rfl dX12_paste_132 ?_
        refine lv_bipush (v := 60) hx hb dX12_paste_135 (by decide) ?_
        refine lv_iload_n hx hb dX12_paste_137 rfl (lv_at hl 1 rfl) ?_
        refine lv_imul hx hb dX12_paste_138 ?_
        refine lv_topi (fun y138 e138 => ?_)
        have q138 : y138.toInt = 60 * p0.toInt := by rw [e138]; exact mu_z rfl rfl (ir_c 60) r6_1a (by decide) (by decide) (by decide)
        have r138 : ir y138.toInt 0 180 := mu_r q138 (ir_c 60) r6_1a (by decide) (by decide) (by decide) (by decide)
        refine lv_iload_n hx hb dX12_paste_139 rfl (lv_at hl 2 rfl) ?_
        refine lv_iadd hx hb dX12_paste_140 ?_
        refine lv_topi (fun y140 e140 => ?_)
        have q140 : y140.toInt = y138.toInt + p1.toInt := by rw [e140]; exact ad_z rfl rfl r138 rw115_l2 (by decide) (by decide)
        have r140 : ir y140.toInt 0 240 := ad_r q140 r138 rw115_l2 (by decide) (by decide)
        refine lv_iload hx hb dX12_paste_141 (lv_at hl 6 rfl) ?_
        refine lv_iadd hx hb dX12_paste_143 ?_
        refine lv_topi (fun y143 e143 => ?_)
        have q143 : y143.toInt = y140.toInt + j118_l6.toInt := by rw [e143]; exact ad_z rfl rfl r140 r122a (by decide) (by decide)
        have r143 : ir y143.toInt 0 299 := ad_r q143 r140 r122a (by decide) (by decide)
        refine va_lald (D := g) hx hb hK hP 3 1 rfl rfl (vi_in rfl (by omega) (by omega)) dX12_paste_144 ?_
        refine lv_topl (fun y144 e144 => ?_)
        refine va_last (D := g) hx hb hK hP hD hS 4 1 rfl rfl (vi_rg rfl r122a (by decide) (by decide)) dX12_paste_145 (fun H locs hP hD hS => ?_)
        obtain ⟨g145, e145⟩ : ∃ z, z = vp_updL j118_m_a4_c j118_l6.toNatClampNeg y144 := ⟨_, rfl⟩
        have hP : va_P g vwCl [(m, .inr (11, mG m_a 0 m_taped m_at m_token m_place m_value m_word m_bad m_badPlace m_fault m_faultPlace m_willing m_will m_forgot m_isDrawn m_x m_begin m_round m_roundCards m_fate m_any m_bothSend m_meanCards m_bestSum m_fitMany m_fitFirst m_fitSecond)), ((m_a 1), .inl (cI, 4, .inl m_width_c)), ((m_a 2), .inl (cI, 4, .inl m_many_c)), ((m_a 3), .inl (cJ, 240, .inr (.inl m_cells_c))), ((m_a 4), .inl (cJ, 60, .inr (.inl (vp_updL j118_m_a4_c j118_l6.toNatClampNeg y144))))] H := hP
        have hD : va_D A [(m, .inr (11, mG m_a 0 m_taped m_at m_token m_place m_value m_word m_bad m_badPlace m_fault m_faultPlace m_willing m_will m_forgot m_isDrawn m_x m_begin m_round m_roundCards m_fate m_any m_bothSend m_meanCards m_bestSum m_fitMany m_fitFirst m_fitSecond)), ((m_a 1), .inl (cI, 4, .inl m_width_c)), ((m_a 2), .inl (cI, 4, .inl m_many_c)), ((m_a 3), .inl (cJ, 240, .inr (.inl m_cells_c))), ((m_a 4), .inl (cJ, 60, .inr (.inl (vp_updL j118_m_a4_c j118_l6.toNatClampNeg y144))))] := hD
        rw [← e145] at hP hD
        obtain ⟨y146, e146⟩ : ∃ y : Int32, y = j118_l6 + 1 := ⟨_, rfl⟩
        have q146 : y146.toInt = j118_l6.toInt + 1 := by rw [e146]; exact ad_z rfl rfl r122a (ir_c 1) (by decide) (by decide)
        have r146 : ir y146.toInt 1 60 := ad_r q146 r122a (ir_c 1) (by decide) (by decide)
        refine lv_iinc (v := y146) (lv' := [(6, .int y146), (0, .ref m), (1, .int p0), (2, .int p1), (3, .int p2), (4, .int p3), (5, .int p4)]) hx hb dX12_paste_146 hl (k := 6) rfl e146.symm (by decide) rfl (fun ls hl => ?_)
        refine lv_goto (tgt := 118) hx hb dX12_paste_149 (by decide) ?_
        exact ih118 y146 g145 _ _ _ (by omega) (ir_w r146 (by decide) (by decide)) (hP.sub [0, 1, 2, 3, 4] rfl) (hD.sub [0, 1, 2, 3, 4] (by decide) rfl) hS (lv_sub hl [1, 2, 3, 4, 5, 6, 0] rfl)
      have f122 := (show p4.toInt ≤ j118_l6.toInt from z_le rfl rfl c122)
      refine lv_iconst (v := 0) hx hb dX12_paste_152 (by decide) ?_
      refine lv_istore (lv' := [(6, .int 0), (0, .ref m), (1, .int p0), (2, .int p1), (3, .int p2), (4, .int p3), (5, .int p4)]) hx hb dX12_paste_153 hl (by decide) rfl (fun ls hl => ?_)
      have J155 : ∀ (n155 : Nat) (j155_l6 : Int32) (j155_m_a3_c : Nat → Int64) (H : Heap) (locs : List Loc) (ls : Array Slot), (61 - j155_l6.toInt).toNat < n155 → (ir j155_l6.toInt 0 60) → va_P g vwCl [(m, .inr (11, mG m_a 0 m_taped m_at m_token m_place m_value m_word m_bad m_badPlace m_fault m_faultPlace m_willing m_will m_forgot m_isDrawn m_x m_begin m_round m_roundCards m_fate m_any m_bothSend m_meanCards m_bestSum m_fitMany m_fitFirst m_fitSecond)), ((m_a 1), .inl (cI, 4, .inl m_width_c)), ((m_a 2), .inl (cI, 4, .inl m_many_c)), ((m_a 3), .inl (cJ, 240, .inr (.inl j155_m_a3_c))), ((m_a 4), .inl (cJ, 60, .inr (.inl j118_m_a4_c)))] H → va_D A [(m, .inr (11, mG m_a 0 m_taped m_at m_token m_place m_value m_word m_bad m_badPlace m_fault m_faultPlace m_willing m_will m_forgot m_isDrawn m_x m_begin m_round m_roundCards m_fate m_any m_bothSend m_meanCards m_bestSum m_fitMany m_fitFirst m_fitSecond)), ((m_a 1), .inl (cI, 4, .inl m_width_c)), ((m_a 2), .inl (cI, 4, .inl m_many_c)), ((m_a 3), .inl (cJ, 240, .inr (.inl j155_m_a3_c))), ((m_a 4), .inl (cJ, 60, .inr (.inl j118_m_a4_c)))] → va_S A s.heap H locs → lv_has ls 7 [(0, .ref m), (3, .int p2), (4, .int p3), (5, .int p4), (6, .int j155_l6)] → W p l e (headSpec v_X12_paste ({ frames := 2, cells := 0, slots := 0, locals := 45 })).room s mth av below meth c H locs 0 0 QQ (F0 mth 155 ls []) := by
        intro n155
        induction n155 with
        | zero => exact fun j155_l6 j155_m_a3_c H locs ls hn => absurd hn (Nat.not_lt_zero _)
        | succ n155 ih155 =>
          intro j155_l6 j155_m_a3_c H locs ls hn155 hj155_l6 hP hD hS hl
          refine lv_iload hx hb dX12_paste_155 (lv_at hl 4 rfl) ?_
          refine lv_iload hx hb dX12_paste_157 (lv_at hl 3 rfl) ?_
          refine lv_icmp_ge (tgt := 190) hx hb dX12_paste_159 (by decide) (fun c159 => ?_) (fun c159 => ?_)
          · have f159 := (show p4.toInt ≤ j155_l6.toInt from z_le rfl rfl c159)
            refine lv_iconst (v := 0) hx hb dX12_paste_190 (by decide) ?_
            subst hQ
            have hP9 := hP.sub (ws' := [(m, .inr (11, mG m_a 0 m_taped m_at m_token m_place m_value m_word m_bad m_badPlace m_fault m_faultPlace m_willing m_will m_forgot m_isDrawn m_x m_begin m_round m_roundCards m_fate m_any m_bothSend m_meanCards m_bestSum m_fitMany m_fitFirst m_fitSecond)), ((m_a 1), .inl (cI, 4, .inl m_width_c)), ((m_a 2), .inl (cI, 4, .inl m_many_c)), ((m_a 3), .inl (cJ, 240, .inr (.inl j155_m_a3_c))), ((m_a 4), .inl (cJ, 60, .inr (.inl j118_m_a4_c)))]) [0, 1, 2, 3, 4] rfl
            have hD9 := hD.sub (ws' := [(m, .inr (11, mG m_a 0 m_taped m_at m_token m_place m_value m_word m_bad m_badPlace m_fault m_faultPlace m_willing m_will m_forgot m_isDrawn m_x m_begin m_round m_roundCards m_fate m_any m_bothSend m_meanCards m_bestSum m_fitMany m_fitFirst m_fitSecond)), ((m_a 1), .inl (cI, 4, .inl m_width_c)), ((m_a 2), .inl (cI, 4, .inl m_many_c)), ((m_a 3), .inl (cJ, 240, .inr (.inl j155_m_a3_c))), ((m_a 4), .inl (cJ, 60, .inr (.inl j118_m_a4_c)))]) [0, 1, 2, 3, 4] (by decide) rfl
            exact W.iret (v := 0) hx hb hr (fun t ht hW => ⟨⟨0, (0, j155_m_a3_c, j118_m_a4_c), rfl, ⟨(show ir (0 : Int32).toInt 0 0 by decide), (show ir (0 : Int32).toInt (-8) 0 by decide)⟩, ⟨by rw [ht]; exact hP9, va_K.moved hW.alike hK, hD9⟩⟩, hS.F ht⟩) hS.2.2 dX12_paste_191
          have f159 := (show j155_l6.toInt < p4.toInt from z_nle rfl rfl c159)
          have r159a : ir j155_l6.toInt 0 59 := ir_lta f159 hj155_l6 rw115_l5 (by decide)
          have r159b : ir p4.toInt 1 60 := ir_ltb f159 hj155_l6 rw115_l5 (by decide)
          refine lv_aload_n hx hb dX12_paste_162 rfl (lv_at hl 0 rfl) ?_
          refine va_get (D := g) (ci := 11) (v := .ref (m_a 3)) (C := RX12) (T := TX12) (N := 56) hx hb hts iX12 hown hK hP 0 rfl rfl 3 (by decide) (hts (.fieldLink RX12 16 "CardsAtYuleModel" "cells" "[J") (List.mem_cons_of_mem _ (List.mem_append_left _ (List.mem_of_getElem? (i := 6) rfl)))) (fun _ h9 => h9) rfl dX12_paste_163 ?_
          refine lv_bipush (v := 60) hx hb dX12_paste_166 (by decide) ?_
          refine lv_iload_n hx hb dX12_paste_168 rfl (lv_at hl 1 rfl) ?_
          refine lv_imul hx hb dX12_paste_169 ?_
          refine lv_topi (fun y169 e169 => ?_)
          have q169 : y169.toInt = 60 * p2.toInt := by rw [e169]; exact mu_z rfl rfl (ir_c 60) r13_1a (by decide) (by decide) (by decide)
          have r169 : ir y169.toInt 0 180 := mu_r q169 (ir_c 60) r13_1a (by decide) (by decide) (by decide) (by decide)
          refine lv_iload hx hb dX12_paste_170 (lv_at hl 2 rfl) ?_
          refine lv_iadd hx hb dX12_paste_172 ?_
          refine lv_topi (fun y172 e172 => ?_)
          have q172 : y172.toInt = y169.toInt + p3.toInt := by rw [e172]; exact ad_z rfl rfl r169 rw115_l4 (by decide) (by decide)
          have r172 : ir y172.toInt 0 240 := ad_r q172 r169 rw115_l4 (by decide) (by decide)
          refine lv_iload hx hb dX12_paste_173 (lv_at hl 4 rfl) ?_
          refine lv_iadd hx hb dX12_paste_175 ?_
          refine lv_topi (fun y175 e175 => ?_)
          have q175 : y175.toInt = y172.toInt + j155_l6.toInt := by rw [e175]; exact ad_z rfl rfl r172 r159a (by decide) (by decide)
          have r175 : ir y175.toInt 0 299 := ad_r q175 r172 r159a (by decide) (by decide)
          refine lv_aload_n hx hb dX12_paste_176 rfl (lv_at hl 0 rfl) ?_
          refine va_get (D := g) (ci := 11) (v := .ref (m_a 4)) (C := RX12) (T := TX12) (N := 56) hx hb hts iX12 hown hK hP 0 rfl rfl 4 (by decide) (hts (.fieldLink RX12 20 "CardsAtYuleModel" "moved" "[J") (List.mem_cons_of_mem _ (List.mem_append_left _ (List.mem_of_getElem? (i := 7) rfl)))) (fun _ h9 => h9) rfl dX12_paste_177 ?_
          refine lv_iload hx hb dX12_paste_180 (lv_at hl 4 rfl) ?_
          refine va_lald (D := g) hx hb hK hP 4 1 rfl rfl (vi_rg rfl r159a (by decide) (by decide)) dX12_paste_182 ?_
          refine lv_topl (fun y182 e182 => ?_)
          refine va_last (D := g) hx hb hK hP hD hS 3 1 rfl rfl (vi_in rfl (by omega) (by omega)) dX12_paste_183 (fun H locs hP hD hS => ?_)
          obtain ⟨g183, e183⟩ : ∃ z, z = vp_updL j155_m_a3_c y175.toNatClampNeg y182 := ⟨_, rfl⟩
          have hP : va_P g vwCl [(m, .inr (11, mG m_a 0 m_taped m_at m_token m_place m_value m_word m_bad m_badPlace m_fault m_faultPlace m_willing m_will m_forgot m_isDrawn m_x m_begin m_round m_roundCards m_fate m_any m_bothSend m_meanCards m_bestSum m_fitMany m_fitFirst m_fitSecond)), ((m_a 1), .inl (cI, 4, .inl m_width_c)), ((m_a 2), .inl (cI, 4, .inl m_many_c)), ((m_a 3), .inl (cJ, 240, .inr (.inl (vp_updL j155_m_a3_c y175.toNatClampNeg y182)))), ((m_a 4), .inl (cJ, 60, .inr (.inl j118_m_a4_c)))] H := hP
          have hD : va_D A [(m, .inr (11, mG m_a 0 m_taped m_at m_token m_place m_value m_word m_bad m_badPlace m_fault m_faultPlace m_willing m_will m_forgot m_isDrawn m_x m_begin m_round m_roundCards m_fate m_any m_bothSend m_meanCards m_bestSum m_fitMany m_fitFirst m_fitSecond)), ((m_a 1), .inl (cI, 4, .inl m_width_c)), ((m_a 2), .inl (cI, 4, .inl m_many_c)), ((m_a 3), .inl (cJ, 240, .inr (.inl (vp_updL j155_m_a3_c y175.toNatClampNeg y182)))), ((m_a 4), .inl (cJ, 60, .inr (.inl j118_m_a4_c)))] := hD
          rw [← e183] at hP hD
          obtain ⟨y184, e184⟩ : ∃ y : Int32, y = j155_l6 + 1 := ⟨_, rfl⟩
          have q184 : y184.toInt = j155_l6.toInt + 1 := by rw [e184]; exact ad_z rfl rfl r159a (ir_c 1) (by decide) (by decide)
          have r184 : ir y184.toInt 1 60 := ad_r q184 r159a (ir_c 1) (by decide) (by decide)
          refine lv_iinc (v := y184) (lv' := [(6, .int y184), (0, .ref m), (3, .int p2), (4, .int p3), (5, .int p4)]) hx hb dX12_paste_184 hl (k := 4) rfl e184.symm (by decide) rfl (fun ls hl => ?_)
          refine lv_goto (tgt := 155) hx hb dX12_paste_187 (by decide) ?_
          exact ih155 y184 g183 _ _ _ (by omega) (ir_w r184 (by decide) (by decide)) (hP.sub [0, 1, 2, 3, 4] rfl) (hD.sub [0, 1, 2, 3, 4] (by decide) rfl) hS (lv_sub hl [1, 2, 3, 4, 0] rfl)
      exact J155 _ 0 m_cells_c _ _ _ (Nat.lt_succ_self _) (by decide) (hP.sub [0, 1, 2, 3, 4] rfl) (hD.sub [0, 1, 2, 3, 4] (by decide) rfl) hS (lv_sub hl [1, 4, 5, 6, 0] rfl)
  exact J118 _ 0 m_moved_c _ _ _ (Nat.lt_succ_self _) (by decide) (hP.sub [0, 1, 2, 3, 4] rfl) (hD.sub [0, 1, 2, 3, 4] (by decide) rfl) hS (lv_sub hl [1, 2, 3, 4, 5, 6, 0] rfl)
def v_X12_four : List Cond := .code yX12_four cX12_four 3 none :: (([.fieldLink RX12 23 "CardsAtYuleModel" "tape" "[B", .fieldLink RX12 124 "CardsAtYuleModel" "taped" "I"] : List Cond) ++ (wsX120 ++ ([] : List Cond)))
theorem good_v_X12_four : v_X12_four.all goodWord = true := ga_c (by decide +kernel) (ga_a (by decide +kernel) (ga_a good_wsX120 rfl))
set_option maxHeartbeats 4000000 in
set_option maxRecDepth 100000 in
theorem q_X12_four (l : Launch) (g : va_G) (cI cJ cB cZ cL : ClassId) (p0 : Int32) (m : Nat) (m_a : Nat → Nat) (m_thrown : Int32) (m_taped : Int32) (m_at : Int32) (m_token : Int32) (m_place : Int32) (m_value : Int32) (m_word : Int64) (m_bad : Int32) (m_badPlace : Int32) (m_fault : Int32) (m_faultPlace : Int32) (m_willing : Int32) (m_will : Int32) (m_forgot : Int32) (m_isDrawn : Int32) (m_x : Int64) (m_begin : Int32) (m_round : Int32) (m_roundCards : Int32) (m_fate : Int32) (m_any : Int64) (m_bothSend : Int64) (m_meanCards : Int64) (m_bestSum : Int32) (m_fitMany : Int32) (m_fitFirst : Int64) (m_fitSecond : Int64) (m_tape_c : Nat → Int32) (sz : Nat) (hv_m_taped : ir m_taped.toInt 0 1596) (hv_m_at : ir m_at.toInt 0 1600) (hv_m_will : ir m_will.toInt 0 1) (hv_m_isDrawn : ir m_isDrawn.toInt 0 1) : Met l yX12_four v_X12_four ({ frames := 0, cells := 0, slots := 0, locals := 0 }) (va_Pc [.ref m, .int p0] (pRW g (tyT cI cJ cB cZ cL) [(m, .inr (11, mG m_a m_thrown m_taped m_at m_token m_place m_value m_word m_bad m_badPlace m_fault m_faultPlace m_willing m_will m_forgot m_isDrawn m_x m_begin m_round m_roundCards m_fate m_any m_bothSend m_meanCards m_bestSum m_fitMany m_fitFirst m_fitSecond)), ((m_a 5), .inl (cB, 1600, .inl m_tape_c))] sz)) (va_Qv (fun (u : Int32 × (Nat → Int32)) => match u with | (n_m_taped, n_m_tape_c) => (ir n_m_taped.toInt 0 1600) ∧ (n_m_taped.toInt = m_taped.toInt + 4)) (fun (u : Int32 × (Nat → Int32)) (t : State) => bRW g (tyT cI cJ cB cZ cL) (va_A [(m, .inr (11, mG m_a m_thrown m_taped m_at m_token m_place m_value m_word m_bad m_badPlace m_fault m_faultPlace m_willing m_will m_forgot m_isDrawn m_x m_begin m_round m_roundCards m_fate m_any m_bothSend m_meanCards m_bestSum m_fitMany m_fitFirst m_fitSecond)), ((m_a 5), .inl (cB, 1600, .inl m_tape_c))] sz) (match u with | (n_m_taped, n_m_tape_c) => [(m, .inr (11, mG m_a m_thrown n_m_taped m_at m_token m_place m_value m_word m_bad m_badPlace m_fault m_faultPlace m_willing m_will m_forgot m_isDrawn m_x m_begin m_round m_roundCards m_fate m_any m_bothSend m_meanCards m_bestSum m_fitMany m_fitFirst m_fitSecond)), ((m_a 5), .inl (cB, 1600, .inl n_m_tape_c))]) t) (va_A [(m, .inr (11, mG m_a m_thrown m_taped m_at m_token m_place m_value m_word m_bad m_badPlace m_fault m_faultPlace m_willing m_will m_forgot m_isDrawn m_x m_begin m_round m_roundCards m_fate m_any m_bothSend m_meanCards m_bestSum m_fitMany m_fitFirst m_fitSecond)), ((m_a 5), .inl (cB, 1600, .inl m_tape_c))] sz)) 0 0 (va_A [(m, .inr (11, mG m_a m_thrown m_taped m_at m_token m_place m_value m_word m_bad m_badPlace m_fault m_faultPlace m_willing m_will m_forgot m_isDrawn m_x m_begin m_round m_roundCards m_fate m_any m_bothSend m_meanCards m_bestSum m_fitMany m_fitFirst m_fitSecond)), ((m_a 5), .inl (cB, 1600, .inl m_tape_c))] sz) := by
  refine Met.ofW (cc := cX12_four) (maxL := 3) (ret := none) (by decide) rfl ?_
  intro p e s mth args below meth c s₁ B hml hv
  obtain ⟨rfl, hsz, hP, hK, hD0⟩ := hv
  have hx := B.exec
  have hb := B.bytes
  have hr := B.returns
  have hts := atoms_spec (ws := v_X12_four) B.pre
  have hown : s.vm.findClass RX12 = some mth.cls := findClass_of_methodNamed B.named
  have hlocks := B.notSynchronized
  clear B
  subst hsz
  have iX12 : ∀ w ∈ wsX120, w ∈ v_X12_four := (fun _ h => List.mem_cons_of_mem _ (List.mem_append_right _ (List.mem_append_left _ h)))
  have hD := hD0.self (sz := s.heap.size)
  generalize hAe : (va_A [(m, .inr (11, mG m_a m_thrown m_taped m_at m_token m_place m_value m_word m_bad m_badPlace m_fault m_faultPlace m_willing m_will m_forgot m_isDrawn m_x m_begin m_round m_roundCards m_fate m_any m_bothSend m_meanCards m_bestSum m_fitMany m_fitFirst m_fitSecond)), ((m_a 5), .inl (cB, 1600, .inl m_tape_c))] s.heap.size) = A at hD ⊢
  have hA : ∀ q : Nat, s.heap.size ≤ q → A q := fun q h => by rw [← hAe]; exact Or.inr h
  have hS : va_S A s.heap s.heap [] := va_S.rf
  have hl := lv_entry ([.ref m, .int p0]) (n := 3) (Nat.le_of_ble_eq_true rfl)
  rw [lg_entry_eq]
  generalize (lg_sl ([.ref m, .int p0]) ++ List.replicate (3 - (lg_sl ([.ref m, .int p0])).length) Slot.unset).toArray = ls at hl ⊢
  generalize ([.ref m, .int p0] : List Value).toArray = av at hts ⊢
  generalize hQ : MQ below _ av s _ _ A = QQ
  have hl : lv_has ls 3 [(0, .ref m), (1, .int p0)] := hl
  have hP : va_P g vwCl [(m, .inr (11, mG m_a m_thrown m_taped m_at m_token m_place m_value m_word m_bad m_badPlace m_fault m_faultPlace m_willing m_will m_forgot m_isDrawn m_x m_begin m_round m_roundCards m_fate m_any m_bothSend m_meanCards m_bestSum m_fitMany m_fitFirst m_fitSecond)), ((m_a 5), .inl (cB, 1600, .inl m_tape_c))] s.heap := hP
  refine lv_bipush (v := 24) hx hb dX12_four_0 (by decide) ?_
  refine lv_istore_n (lv' := [(2, .int 24), (0, .ref m), (1, .int p0)]) hx hb dX12_four_2 rfl hl (by decide) rfl (fun ls hl => ?_)
  have J3 : ∀ (n3 : Nat) (j3_l2 : Int32) (j3_m_taped : Int32) (j3_m_a5_c : Nat → Int32) (H : Heap) (locs : List Loc) (ls : Array Slot), (j3_l2.toInt - (-9)).toNat < n3 → (ir j3_l2.toInt (-8) 24) → (ir j3_m_taped.toInt 0 1600) → (8 * j3_m_taped.toInt = 8 * m_taped.toInt + 24 - j3_l2.toInt) → va_P g vwCl [(m, .inr (11, mG m_a m_thrown j3_m_taped m_at m_token m_place m_value m_word m_bad m_badPlace m_fault m_faultPlace m_willing m_will m_forgot m_isDrawn m_x m_begin m_round m_roundCards m_fate m_any m_bothSend m_meanCards m_bestSum m_fitMany m_fitFirst m_fitSecond)), ((m_a 5), .inl (cB, 1600, .inl j3_m_a5_c))] H → va_D A [(m, .inr (11, mG m_a m_thrown j3_m_taped m_at m_token m_place m_value m_word m_bad m_badPlace m_fault m_faultPlace m_willing m_will m_forgot m_isDrawn m_x m_begin m_round m_roundCards m_fate m_any m_bothSend m_meanCards m_bestSum m_fitMany m_fitFirst m_fitSecond)), ((m_a 5), .inl (cB, 1600, .inl j3_m_a5_c))] → va_S A s.heap H locs → lv_has ls 3 [(0, .ref m), (1, .int p0), (2, .int j3_l2)] → W p l e (headSpec v_X12_four ({ frames := 0, cells := 0, slots := 0, locals := 0 })).room s mth av below meth c H locs 0 0 QQ (F0 mth 3 ls []) := by
    intro n3
    induction n3 with
    | zero => exact fun j3_l2 j3_m_taped j3_m_a5_c H locs ls hn => absurd hn (Nat.not_lt_zero _)
    | succ n3 ih3 =>
      intro j3_l2 j3_m_taped j3_m_a5_c H locs ls hn3 hj3_l2 hj3_m_taped hi3_0 hP hD hS hl
      refine lv_iload_n hx hb dX12_four_3 rfl (lv_at hl 2 rfl) ?_
      refine lv_if_lt (tgt := 36) hx hb dX12_four_4 (by decide) (fun c4 => ?_) (fun c4 => ?_)
      · have f4 := (show j3_l2.toInt < 0 from z_lt rfl rfl c4)
        have r4a : ir j3_l2.toInt (-8) (-1) := ir_lta f4 hj3_l2 (ir_c 0) (by decide)
        subst hQ
        have hP9 := hP.sub (ws' := [(m, .inr (11, mG m_a m_thrown j3_m_taped m_at m_token m_place m_value m_word m_bad m_badPlace m_fault m_faultPlace m_willing m_will m_forgot m_isDrawn m_x m_begin m_round m_roundCards m_fate m_any m_bothSend m_meanCards m_bestSum m_fitMany m_fitFirst m_fitSecond)), ((m_a 5), .inl (cB, 1600, .inl j3_m_a5_c))]) [0, 1] rfl
        have hD9 := hD.sub (ws' := [(m, .inr (11, mG m_a m_thrown j3_m_taped m_at m_token m_place m_value m_word m_bad m_badPlace m_fault m_faultPlace m_willing m_will m_forgot m_isDrawn m_x m_begin m_round m_roundCards m_fate m_any m_bothSend m_meanCards m_bestSum m_fitMany m_fitFirst m_fitSecond)), ((m_a 5), .inl (cB, 1600, .inl j3_m_a5_c))]) [0, 1] (by decide) rfl
        exact W.vret hx hb hr (fun t ht hW => ⟨⟨(j3_m_taped, j3_m_a5_c), rfl, ⟨hj3_m_taped, (by omega)⟩, ⟨by rw [ht]; exact hP9, va_K.moved hW.alike hK, hD9⟩⟩, hS.F ht⟩) hS.2.2 dX12_four_36
      have f4 := (show 0 ≤ j3_l2.toInt from z_nlt rfl rfl c4)
      have r4a : ir j3_l2.toInt 0 24 := ir_leb f4 (ir_c 0) hj3_l2 (by decide)
      have rw7_m_taped : ir j3_m_taped.toInt 0 1599 := by omega
      refine lv_aload_n hx hb dX12_four_7 rfl (lv_at hl 0 rfl) ?_
      refine va_get (D := g) (ci := 11) (v := .ref (m_a 5)) (C := RX12) (T := TX12) (N := 56) hx hb hts iX12 hown hK hP 0 rfl rfl 5 (by decide) (hts (.fieldLink RX12 23 "CardsAtYuleModel" "tape" "[B") (List.mem_cons_of_mem _ (List.mem_append_left _ (List.mem_of_getElem? (i := 0) rfl)))) (fun _ h9 => h9) rfl dX12_four_8 ?_
      refine lv_aload_n hx hb dX12_four_11 rfl (lv_at hl 0 rfl) ?_
      refine va_get (D := g) (ci := 11) (v := .int j3_m_taped) (C := RX12) (T := TX12) (N := 56) hx hb hts iX12 hown hK hP 0 rfl rfl 6 (by decide) (hts (.fieldLink RX12 124 "CardsAtYuleModel" "taped" "I") (List.mem_cons_of_mem _ (List.mem_append_left _ (List.mem_of_getElem? (i := 1) rfl)))) (fun _ h9 => h9) rfl dX12_four_12 ?_
      refine lv_iload_n hx hb dX12_four_15 rfl (lv_at hl 1 rfl) ?_
      refine lv_iload_n hx hb dX12_four_16 rfl (lv_at hl 2 rfl) ?_
      refine lv_ishr hx hb dX12_four_17 ?_
      refine lv_topi (fun y17 e17 => ?_)
      refine lv_i2b (v := y17.toInt8.toInt32) hx hb dX12_four_18 rfl ?_
      refine lv_topi (fun y18 e18 => ?_)
      refine va_bast (D := g) hx hb hK hP hD hS 1 2 rfl rfl (vi_rg rfl rw7_m_taped (by decide) (by decide)) dX12_four_19 (fun H locs hP hD hS => ?_)
      obtain ⟨g19, e19⟩ : ∃ z, z = upd j3_m_a5_c j3_m_taped.toNatClampNeg (vp_nar .byte y18) := ⟨_, rfl⟩
      have hP : va_P g vwCl [(m, .inr (11, mG m_a m_thrown j3_m_taped m_at m_token m_place m_value m_word m_bad m_badPlace m_fault m_faultPlace m_willing m_will m_forgot m_isDrawn m_x m_begin m_round m_roundCards m_fate m_any m_bothSend m_meanCards m_bestSum m_fitMany m_fitFirst m_fitSecond)), ((m_a 5), .inl (cB, 1600, .inl (upd j3_m_a5_c j3_m_taped.toNatClampNeg (vp_nar .byte y18))))] H := hP
      have hD : va_D A [(m, .inr (11, mG m_a m_thrown j3_m_taped m_at m_token m_place m_value m_word m_bad m_badPlace m_fault m_faultPlace m_willing m_will m_forgot m_isDrawn m_x m_begin m_round m_roundCards m_fate m_any m_bothSend m_meanCards m_bestSum m_fitMany m_fitFirst m_fitSecond)), ((m_a 5), .inl (cB, 1600, .inl (upd j3_m_a5_c j3_m_taped.toNatClampNeg (vp_nar .byte y18))))] := hD
      rw [← e19] at hP hD
      refine lv_aload_n hx hb dX12_four_20 rfl (lv_at hl 0 rfl) ?_
      refine lv_dup hx hb dX12_four_21 rfl ?_
      refine va_get (D := g) (ci := 11) (v := .int j3_m_taped) (C := RX12) (T := TX12) (N := 56) hx hb hts iX12 hown hK hP 0 rfl rfl 6 (by decide) (hts (.fieldLink RX12 124 "CardsAtYuleModel" "taped" "I") (List.mem_cons_of_mem _ (List.mem_append_left _ (List.mem_of_getElem? (i := 1) rfl)))) (fun _ h9 => h9) rfl dX12_four_22 ?_
      refine lv_iconst (v := 1) hx hb dX12_four_25 (by decide) ?_
      refine lv_iadd hx hb dX12_four_26 ?_
      refine lv_topi (fun y26 e26 => ?_)
      have q26 : y26.toInt = j3_m_taped.toInt + 1 := by rw [e26]; exact ad_z rfl rfl rw7_m_taped (ir_c 1) (by decide) (by decide)
      have r26 : ir y26.toInt 1 1600 := ad_r q26 rw7_m_taped (ir_c 1) (by decide) (by decide)
      refine va_put (D := g) (ci := 11) (v := .int y26) (ty := .int) (C := RX12) (T := TX12) (N := 56) hx hb hts iX12 tyX12 tyX12_ok nmX12 hown hK hP hD hS 0 rfl rfl 6 (by decide) (hts (.fieldLink RX12 124 "CardsAtYuleModel" "taped" "I") (List.mem_cons_of_mem _ (List.mem_append_left _ (List.mem_of_getElem? (i := 1) rfl)))) (fun _ h9 => h9) rfl (by decide +kernel) rfl rfl (Nat.le_of_ble_eq_true rfl) dX12_four_27 (fun H locs hP hD hS => ?_)
      have hP : va_P g vwCl [(m, .inr (11, mG m_a m_thrown y26 m_at m_token m_place m_value m_word m_bad m_badPlace m_fault m_faultPlace m_willing m_will m_forgot m_isDrawn m_x m_begin m_round m_roundCards m_fate m_any m_bothSend m_meanCards m_bestSum m_fitMany m_fitFirst m_fitSecond)), ((m_a 5), .inl (cB, 1600, .inl g19))] H := hP
      have hD : va_D A [(m, .inr (11, mG m_a m_thrown y26 m_at m_token m_place m_value m_word m_bad m_badPlace m_fault m_faultPlace m_willing m_will m_forgot m_isDrawn m_x m_begin m_round m_roundCards m_fate m_any m_bothSend m_meanCards m_bestSum m_fitMany m_fitFirst m_fitSecond)), ((m_a 5), .inl (cB, 1600, .inl g19))] := hD
      obtain ⟨y30, e30⟩ : ∃ y : Int32, y = j3_l2 + (-8) := ⟨_, rfl⟩
      have q30 : y30.toInt = j3_l2.toInt + (-8) := by rw [e30]; exact ad_z rfl rfl r4a (ir_c (-8)) (by decide) (by decide)
      have r30 : ir y30.toInt (-8) 16 := ad_r q30 r4a (ir_c (-8)) (by decide) (by decide)
      refine lv_iinc (v := y30) (lv' := [(2, .int y30), (0, .ref m), (1, .int p0)]) hx hb dX12_four_30 hl (k := 2) rfl e30.symm (by decide) rfl (fun ls hl => ?_)
      refine lv_goto (tgt := 3) hx hb dX12_four_33 (by decide) ?_
      exact ih3 y30 y26 g19 _ _ _ (by omega) (ir_w r30 (by decide) (by decide)) (ir_w r26 (by decide) (by decide)) (by first | omega | decide) (hP.sub [0, 1] rfl) (hD.sub [0, 1] (by decide) rfl) hS (lv_sub hl [1, 2, 0] rfl)
  exact J3 _ 24 m_taped m_tape_c _ _ _ (Nat.lt_succ_self _) (by decide) (ir_w hv_m_taped (by decide) (by decide)) (by have kc0 : (24 : Int32).toInt = 24 := rfl; first | omega | decide) (hP.sub [0, 1] rfl) (hD.sub [0, 1] (by decide) rfl) hS (lv_sub hl [1, 2, 0] rfl)
def v_X12_feed : List Cond := .code yX12_feed cX12_feed 6 (some .int) :: (([.fieldLink RX12 107 "CardsAtYuleModel" "thrown" "I", .fieldLink RX12 124 "CardsAtYuleModel" "taped" "I", .methodLink RX12 127 yX12_four, .instanceMethod yX12_four, .selects RX12 yX12_four yX12_four, .initialized RX12] : List Cond) ++ (v_X12_four ++ (wsX120 ++ ([] : List Cond))))
theorem good_v_X12_feed : v_X12_feed.all goodWord = true := ga_c (by decide +kernel) (ga_a (by decide +kernel) (ga_a good_v_X12_four (ga_a good_wsX120 rfl)))
set_option maxHeartbeats 4000000 in
set_option maxRecDepth 100000 in
theorem q_X12_feed (l : Launch) (g : va_G) (cI cJ cB cZ cL : ClassId) (p0 : Int32) (p1 : Int32) (p2 : Int32) (p3 : Int32) (p4 : Int32) (m : Nat) (m_a : Nat → Nat) (m_thrown : Int32) (m_taped : Int32) (m_at : Int32) (m_token : Int32) (m_place : Int32) (m_value : Int32) (m_word : Int64) (m_bad : Int32) (m_badPlace : Int32) (m_fault : Int32) (m_faultPlace : Int32) (m_willing : Int32) (m_will : Int32) (m_forgot : Int32) (m_isDrawn : Int32) (m_x : Int64) (m_begin : Int32) (m_round : Int32) (m_roundCards : Int32) (m_fate : Int32) (m_any : Int64) (m_bothSend : Int64) (m_meanCards : Int64) (m_bestSum : Int32) (m_fitMany : Int32) (m_fitFirst : Int64) (m_fitSecond : Int64) (m_tape_c : Nat → Int32) (sz : Nat) (hv_m_taped : ir m_taped.toInt 0 1600) (hv_m_at : ir m_at.toInt 0 1600) (hv_m_will : ir m_will.toInt 0 1) (hv_m_isDrawn : ir m_isDrawn.toInt 0 1) : Met l yX12_feed v_X12_feed ({ frames := 1, cells := 0, slots := 0, locals := 22 }) (va_Pc [.ref m, .int p0, .int p1, .int p2, .int p3, .int p4] (pRW g (tyT cI cJ cB cZ cL) [(m, .inr (11, mG m_a m_thrown m_taped m_at m_token m_place m_value m_word m_bad m_badPlace m_fault m_faultPlace m_willing m_will m_forgot m_isDrawn m_x m_begin m_round m_roundCards m_fate m_any m_bothSend m_meanCards m_bestSum m_fitMany m_fitFirst m_fitSecond)), ((m_a 5), .inl (cB, 1600, .inl m_tape_c))] sz)) (va_Qi (fun (r : Int32) (u : Int32 × Int32 × (Nat → Int32)) => match u with | (n_m_thrown, n_m_taped, n_m_tape_c) => (ir n_m_thrown.toInt 0 0) ∧ (ir n_m_taped.toInt 0 1600) ∧ (ir r.toInt (-1) 1600)) (fun (u : Int32 × Int32 × (Nat → Int32)) (t : State) => bRW g (tyT cI cJ cB cZ cL) (va_A [(m, .inr (11, mG m_a m_thrown m_taped m_at m_token m_place m_value m_word m_bad m_badPlace m_fault m_faultPlace m_willing m_will m_forgot m_isDrawn m_x m_begin m_round m_roundCards m_fate m_any m_bothSend m_meanCards m_bestSum m_fitMany m_fitFirst m_fitSecond)), ((m_a 5), .inl (cB, 1600, .inl m_tape_c))] sz) (match u with | (n_m_thrown, n_m_taped, n_m_tape_c) => [(m, .inr (11, mG m_a n_m_thrown n_m_taped m_at m_token m_place m_value m_word m_bad m_badPlace m_fault m_faultPlace m_willing m_will m_forgot m_isDrawn m_x m_begin m_round m_roundCards m_fate m_any m_bothSend m_meanCards m_bestSum m_fitMany m_fitFirst m_fitSecond)), ((m_a 5), .inl (cB, 1600, .inl n_m_tape_c))]) t) (va_A [(m, .inr (11, mG m_a m_thrown m_taped m_at m_token m_place m_value m_word m_bad m_badPlace m_fault m_faultPlace m_willing m_will m_forgot m_isDrawn m_x m_begin m_round m_roundCards m_fate m_any m_bothSend m_meanCards m_bestSum m_fitMany m_fitFirst m_fitSecond)), ((m_a 5), .inl (cB, 1600, .inl m_tape_c))] sz)) 0 0 (va_A [(m, .inr (11, mG m_a m_thrown m_taped m_at m_token m_place m_value m_word m_bad m_badPlace m_fault m_faultPlace m_willing m_will m_forgot m_isDrawn m_x m_begin m_round m_roundCards m_fate m_any m_bothSend m_meanCards m_bestSum m_fitMany m_fitFirst m_fitSecond)), ((m_a 5), .inl (cB, 1600, .inl m_tape_c))] sz) := by
  refine Met.ofW (cc := cX12_feed) (maxL := 6) (ret := (some .int)) (by decide) rfl ?_
  intro p e s mth args below meth c s₁ B hml hv
  obtain ⟨rfl, hsz, hP, hK, hD0⟩ := hv
  have hx := B.exec
  have hb := B.bytes
  have hr := B.returns
  have hts := atoms_spec (ws := v_X12_feed) B.pre
  have hown : s.vm.findClass RX12 = some mth.cls := findClass_of_methodNamed B.named
  have hlocks := B.notSynchronized
  clear B
  subst hsz
  have iX12 : ∀ w ∈ wsX120, w ∈ v_X12_feed := (fun _ h => List.mem_cons_of_mem _ (List.mem_append_right _ (List.mem_append_right _ (List.mem_append_left _ h))))
  have hD := hD0.self (sz := s.heap.size)
  generalize hAe : (va_A [(m, .inr (11, mG m_a m_thrown m_taped m_at m_token m_place m_value m_word m_bad m_badPlace m_fault m_faultPlace m_willing m_will m_forgot m_isDrawn m_x m_begin m_round m_roundCards m_fate m_any m_bothSend m_meanCards m_bestSum m_fitMany m_fitFirst m_fitSecond)), ((m_a 5), .inl (cB, 1600, .inl m_tape_c))] s.heap.size) = A at hD ⊢
  have hA : ∀ q : Nat, s.heap.size ≤ q → A q := fun q h => by rw [← hAe]; exact Or.inr h
  have hS : va_S A s.heap s.heap [] := va_S.rf
  have hl := lv_entry ([.ref m, .int p0, .int p1, .int p2, .int p3, .int p4]) (n := 6) (Nat.le_of_ble_eq_true rfl)
  rw [lg_entry_eq]
  generalize (lg_sl ([.ref m, .int p0, .int p1, .int p2, .int p3, .int p4]) ++ List.replicate (6 - (lg_sl ([.ref m, .int p0, .int p1, .int p2, .int p3, .int p4])).length) Slot.unset).toArray = ls at hl ⊢
  generalize ([.ref m, .int p0, .int p1, .int p2, .int p3, .int p4] : List Value).toArray = av at hts ⊢
  generalize hQ : MQ below _ av s _ _ A = QQ
  have hl : lv_has ls 6 [(0, .ref m), (1, .int p0), (2, .int p1), (3, .int p2), (4, .int p3), (5, .int p4)] := hl
  have hP : va_P g vwCl [(m, .inr (11, mG m_a m_thrown m_taped m_at m_token m_place m_value m_word m_bad m_badPlace m_fault m_faultPlace m_willing m_will m_forgot m_isDrawn m_x m_begin m_round m_roundCards m_fate m_any m_bothSend m_meanCards m_bestSum m_fitMany m_fitFirst m_fitSecond)), ((m_a 5), .inl (cB, 1600, .inl m_tape_c))] s.heap := hP
  refine lv_aload_n hx hb dX12_feed_0 rfl (lv_at hl 0 rfl) ?_
  refine lv_iconst (v := 0) hx hb dX12_feed_1 (by decide) ?_
  refine va_put (D := g) (ci := 11) (v := .int 0) (ty := .int) (C := RX12) (T := TX12) (N := 56) hx hb hts iX12 tyX12 tyX12_ok nmX12 hown hK hP hD hS 0 rfl rfl 0 (by decide) (hts (.fieldLink RX12 107 "CardsAtYuleModel" "thrown" "I") (List.mem_cons_of_mem _ (List.mem_append_left _ (List.mem_of_getElem? (i := 0) rfl)))) (fun _ h9 => h9) rfl (by decide +kernel) rfl rfl (Nat.le_of_ble_eq_true rfl) dX12_feed_2 (fun H locs hP hD hS => ?_)
  have hP : va_P g vwCl [(m, .inr (11, mG m_a 0 m_taped m_at m_token m_place m_value m_word m_bad m_badPlace m_fault m_faultPlace m_willing m_will m_forgot m_isDrawn m_x m_begin m_round m_roundCards m_fate m_any m_bothSend m_meanCards m_bestSum m_fitMany m_fitFirst m_fitSecond)), ((m_a 5), .inl (cB, 1600, .inl m_tape_c))] H := hP
  have hD : va_D A [(m, .inr (11, mG m_a 0 m_taped m_at m_token m_place m_value m_word m_bad m_badPlace m_fault m_faultPlace m_willing m_will m_forgot m_isDrawn m_x m_begin m_round m_roundCards m_fate m_any m_bothSend m_meanCards m_bestSum m_fitMany m_fitFirst m_fitSecond)), ((m_a 5), .inl (cB, 1600, .inl m_tape_c))] := hD
  refine lv_aload_n hx hb dX12_feed_5 rfl (lv_at hl 0 rfl) ?_
  refine va_get (D := g) (ci := 11) (v := .int m_taped) (C := RX12) (T := TX12) (N := 56) hx hb hts iX12 hown hK hP 0 rfl rfl 6 (by decide) (hts (.fieldLink RX12 124 "CardsAtYuleModel" "taped" "I") (List.mem_cons_of_mem _ (List.mem_append_left _ (List.mem_of_getElem? (i := 1) rfl)))) (fun _ h9 => h9) rfl dX12_feed_6 ?_
  refine lv_bipush (v := 20) hx hb dX12_feed_9 (by decide) ?_
  refine lv_iadd hx hb dX12_feed_11 ?_
  refine lv_topi (fun y11 e11 => ?_)
  have q11 : y11.toInt = m_taped.toInt + 20 := by rw [e11]; exact ad_z rfl rfl hv_m_taped (ir_c 20) (by decide) (by decide)
  have r11 : ir y11.toInt 20 1620 := ad_r q11 hv_m_taped (ir_c 20) (by decide) (by decide)
  refine lv_sipush (v := 1600) hx hb dX12_feed_12 (by decide) ?_
  refine lv_icmp_le (tgt := 20) hx hb dX12_feed_15 (by decide) (fun c15 => ?_) (fun c15 => ?_)
  rotate_left 1
  · have f15 := (show 1600 < y11.toInt from z_nle rfl rfl c15)
    have r15a : ir y11.toInt 1601 1620 := ir_ltb f15 (ir_c 1600) r11 (by decide)
    refine lv_iconst (v := (-1)) hx hb dX12_feed_18 (by decide) ?_
    subst hQ
    have hP9 := hP.sub (ws' := [(m, .inr (11, mG m_a 0 m_taped m_at m_token m_place m_value m_word m_bad m_badPlace m_fault m_faultPlace m_willing m_will m_forgot m_isDrawn m_x m_begin m_round m_roundCards m_fate m_any m_bothSend m_meanCards m_bestSum m_fitMany m_fitFirst m_fitSecond)), ((m_a 5), .inl (cB, 1600, .inl m_tape_c))]) [0, 1] rfl
    have hD9 := hD.sub (ws' := [(m, .inr (11, mG m_a 0 m_taped m_at m_token m_place m_value m_word m_bad m_badPlace m_fault m_faultPlace m_willing m_will m_forgot m_isDrawn m_x m_begin m_round m_roundCards m_fate m_any m_bothSend m_meanCards m_bestSum m_fitMany m_fitFirst m_fitSecond)), ((m_a 5), .inl (cB, 1600, .inl m_tape_c))]) [0, 1] (by decide) rfl
    exact W.iret (v := (-1)) hx hb hr (fun t ht hW => ⟨⟨(-1), (0, m_taped, m_tape_c), rfl, ⟨(show ir (0 : Int32).toInt 0 0 by decide), hv_m_taped, (show ir ((-1) : Int32).toInt (-1) 1600 by decide)⟩, ⟨by rw [ht]; exact hP9, va_K.moved hW.alike hK, hD9⟩⟩, hS.F ht⟩) hS.2.2 dX12_feed_19
  have f15 := (show y11.toInt ≤ 1600 from z_le rfl rfl c15)
  have r15a : ir y11.toInt 20 1600 := ir_lea f15 r11 (ir_c 1600) (by decide)
  refine lv_aload_n hx hb dX12_feed_20 rfl (lv_at hl 0 rfl) ?_
  refine lv_iload_n hx hb dX12_feed_21 rfl (lv_at hl 1 rfl) ?_
  refine rw_v (wr := []) (va_runV (As := [.int p0]) (rest := []) ⟨hx, hb, hml, hown, hts⟩ (q_X12_four l g cI cJ cB cZ cL p0 m m_a 0 m_taped m_at m_token m_place m_value m_word m_bad m_badPlace m_fault m_faultPlace m_willing m_will m_forgot m_isDrawn m_x m_begin m_round m_roundCards m_fate m_any m_bothSend m_meanCards m_bestSum m_fitMany m_fitFirst m_fitSecond m_tape_c H.size (by omega) hv_m_at hv_m_will hv_m_isDrawn) (cwV 1 hts (goodIn_app (g_4 (List.mem_cons_of_mem _ (List.mem_append_left _ (List.mem_of_getElem? (i := 2) rfl))) (List.mem_cons_of_mem _ (List.mem_append_left _ (List.mem_of_getElem? (i := 3) rfl))) (List.mem_cons_of_mem _ (List.mem_append_left _ (List.mem_of_getElem? (i := 4) rfl))) (List.mem_cons_of_mem _ (List.mem_append_left _ (List.mem_of_getElem? (i := 5) rfl))) (by decide +kernel)) (goodIn_sub (fun _ h => List.mem_cons_of_mem _ (List.mem_append_right _ (List.mem_append_left _ h))) good_v_X12_four)) rfl rfl rfl (by decide +kernel) ⟨Nat.le_of_ble_eq_true rfl, Nat.le_of_ble_eq_true rfl⟩) (pv_RW (q := (RX12, TX12, 56)) (ci := 11) (q0 := 0) (wc := [(m, .inr (11, mG m_a 0 m_taped m_at m_token m_place m_value m_word m_bad m_badPlace m_fault m_faultPlace m_willing m_will m_forgot m_isDrawn m_x m_begin m_round m_roundCards m_fate m_any m_bothSend m_meanCards m_bestSum m_fitMany m_fitFirst m_fitSecond)), ((m_a 5), .inl (cB, 1600, .inl m_tape_c))]) hK hP hD [0, 1] (by decide) rfl rfl rfl) rfl rfl hl.1 rfl (lv_room (Nat.le_of_ble_eq_true rfl)) dX12_feed_22 ⟨Nat.le_of_ble_eq_true rfl, Nat.le_of_ble_eq_true rfl⟩) hS hA hP hD [0, 1] [] rfl rfl (by decide) (by decide) (fun u22 H locs hw22 hP hD hS => ?_)
  obtain ⟨n_m_taped_22, n_m_tape_c_22⟩ := u22
  have hP : va_P g vwCl [(m, .inr (11, mG m_a 0 n_m_taped_22 m_at m_token m_place m_value m_word m_bad m_badPlace m_fault m_faultPlace m_willing m_will m_forgot m_isDrawn m_x m_begin m_round m_roundCards m_fate m_any m_bothSend m_meanCards m_bestSum m_fitMany m_fitFirst m_fitSecond)), ((m_a 5), .inl (cB, 1600, .inl n_m_tape_c_22))] H := hP
  have hD : va_D A [(m, .inr (11, mG m_a 0 n_m_taped_22 m_at m_token m_place m_value m_word m_bad m_badPlace m_fault m_faultPlace m_willing m_will m_forgot m_isDrawn m_x m_begin m_round m_roundCards m_fate m_any m_bothSend m_meanCards m_bestSum m_fitMany m_fitFirst m_fitSecond)), ((m_a 5), .inl (cB, 1600, .inl n_m_tape_c_22))] := hD
  dsimp only at hw22
  obtain ⟨hw22_0, hw22_1⟩ := hw22
  have hw22_1 : n_m_taped_22.toInt = m_taped.toInt + 4 := hw22_1
  refine lv_aload_n hx hb dX12_feed_25 rfl (lv_at hl 0 rfl) ?_
  refine lv_iload_n hx hb dX12_feed_26 rfl (lv_at hl 2 rfl) ?_
  refine rw_v (wr := []) (va_runV (As := [.int p1]) (rest := []) ⟨hx, hb, hml, hown, hts⟩ (q_X12_four l g cI cJ cB cZ cL p1 m m_a 0 n_m_taped_22 m_at m_token m_place m_value m_word m_bad m_badPlace m_fault m_faultPlace m_willing m_will m_forgot m_isDrawn m_x m_begin m_round m_roundCards m_fate m_any m_bothSend m_meanCards m_bestSum m_fitMany m_fitFirst m_fitSecond n_m_tape_c_22 H.size (by omega) hv_m_at hv_m_will hv_m_isDrawn) (cwV 1 hts (goodIn_app (g_4 (List.mem_cons_of_mem _ (List.mem_append_left _ (List.mem_of_getElem? (i := 2) rfl))) (List.mem_cons_of_mem _ (List.mem_append_left _ (List.mem_of_getElem? (i := 3) rfl))) (List.mem_cons_of_mem _ (List.mem_append_left _ (List.mem_of_getElem? (i := 4) rfl))) (List.mem_cons_of_mem _ (List.mem_append_left _ (List.mem_of_getElem? (i := 5) rfl))) (by decide +kernel)) (goodIn_sub (fun _ h => List.mem_cons_of_mem _ (List.mem_append_right _ (List.mem_append_left _ h))) good_v_X12_four)) rfl rfl rfl (by decide +kernel) ⟨Nat.le_of_ble_eq_true rfl, Nat.le_of_ble_eq_true rfl⟩) (pv_RW (q := (RX12, TX12, 56)) (ci := 11) (q0 := 0) (wc := [(m, .inr (11, mG m_a 0 n_m_taped_22 m_at m_token m_place m_value m_word m_bad m_badPlace m_fault m_faultPlace m_willing m_will m_forgot m_isDrawn m_x m_begin m_round m_roundCards m_fate m_any m_bothSend m_meanCards m_bestSum m_fitMany m_fitFirst m_fitSecond)), ((m_a 5), .inl (cB, 1600, .inl n_m_tape_c_22))]) hK hP hD [0, 1] (by decide) rfl rfl rfl) rfl rfl hl.1 rfl (lv_room (Nat.le_of_ble_eq_true rfl)) dX12_feed_27 ⟨Nat.le_of_ble_eq_true rfl, Nat.le_of_ble_eq_true rfl⟩) hS hA hP hD [0, 1] [] rfl rfl (by decide) (by decide) (fun u27 H locs hw27 hP hD hS => ?_)
  obtain ⟨n_m_taped_27, n_m_tape_c_27⟩ := u27
  have hP : va_P g vwCl [(m, .inr (11, mG m_a 0 n_m_taped_27 m_at m_token m_place m_value m_word m_bad m_badPlace m_fault m_faultPlace m_willing m_will m_forgot m_isDrawn m_x m_begin m_round m_roundCards m_fate m_any m_bothSend m_meanCards m_bestSum m_fitMany m_fitFirst m_fitSecond)), ((m_a 5), .inl (cB, 1600, .inl n_m_tape_c_27))] H := hP
  have hD : va_D A [(m, .inr (11, mG m_a 0 n_m_taped_27 m_at m_token m_place m_value m_word m_bad m_badPlace m_fault m_faultPlace m_willing m_will m_forgot m_isDrawn m_x m_begin m_round m_roundCards m_fate m_any m_bothSend m_meanCards m_bestSum m_fitMany m_fitFirst m_fitSecond)), ((m_a 5), .inl (cB, 1600, .inl n_m_tape_c_27))] := hD
  dsimp only at hw27
  obtain ⟨hw27_0, hw27_1⟩ := hw27
  have hw27_1 : n_m_taped_27.toInt = n_m_taped_22.toInt + 4 := hw27_1
  refine lv_aload_n hx hb dX12_feed_30 rfl (lv_at hl 0 rfl) ?_
  refine lv_iload_n hx hb dX12_feed_31 rfl (lv_at hl 3 rfl) ?_
  refine rw_v (wr := []) (va_runV (As := [.int p2]) (rest := []) ⟨hx, hb, hml, hown, hts⟩ (q_X12_four l g cI cJ cB cZ cL p2 m m_a 0 n_m_taped_27 m_at m_token m_place m_value m_word m_bad m_badPlace m_fault m_faultPlace m_willing m_will m_forgot m_isDrawn m_x m_begin m_round m_roundCards m_fate m_any m_bothSend m_meanCards m_bestSum m_fitMany m_fitFirst m_fitSecond n_m_tape_c_27 H.size (by omega) hv_m_at hv_m_will hv_m_isDrawn) (cwV 1 hts (goodIn_app (g_4 (List.mem_cons_of_mem _ (List.mem_append_left _ (List.mem_of_getElem? (i := 2) rfl))) (List.mem_cons_of_mem _ (List.mem_append_left _ (List.mem_of_getElem? (i := 3) rfl))) (List.mem_cons_of_mem _ (List.mem_append_left _ (List.mem_of_getElem? (i := 4) rfl))) (List.mem_cons_of_mem _ (List.mem_append_left _ (List.mem_of_getElem? (i := 5) rfl))) (by decide +kernel)) (goodIn_sub (fun _ h => List.mem_cons_of_mem _ (List.mem_append_right _ (List.mem_append_left _ h))) good_v_X12_four)) rfl rfl rfl (by decide +kernel) ⟨Nat.le_of_ble_eq_true rfl, Nat.le_of_ble_eq_true rfl⟩) (pv_RW (q := (RX12, TX12, 56)) (ci := 11) (q0 := 0) (wc := [(m, .inr (11, mG m_a 0 n_m_taped_27 m_at m_token m_place m_value m_word m_bad m_badPlace m_fault m_faultPlace m_willing m_will m_forgot m_isDrawn m_x m_begin m_round m_roundCards m_fate m_any m_bothSend m_meanCards m_bestSum m_fitMany m_fitFirst m_fitSecond)), ((m_a 5), .inl (cB, 1600, .inl n_m_tape_c_27))]) hK hP hD [0, 1] (by decide) rfl rfl rfl) rfl rfl hl.1 rfl (lv_room (Nat.le_of_ble_eq_true rfl)) dX12_feed_32 ⟨Nat.le_of_ble_eq_true rfl, Nat.le_of_ble_eq_true rfl⟩) hS hA hP hD [0, 1] [] rfl rfl (by decide) (by decide) (fun u32 H locs hw32 hP hD hS => ?_)
  obtain ⟨n_m_taped_32, n_m_tape_c_32⟩ := u32
  have hP : va_P g vwCl [(m, .inr (11, mG m_a 0 n_m_taped_32 m_at m_token m_place m_value m_word m_bad m_badPlace m_fault m_faultPlace m_willing m_will m_forgot m_isDrawn m_x m_begin m_round m_roundCards m_fate m_any m_bothSend m_meanCards m_bestSum m_fitMany m_fitFirst m_fitSecond)), ((m_a 5), .inl (cB, 1600, .inl n_m_tape_c_32))] H := hP
  have hD : va_D A [(m, .inr (11, mG m_a 0 n_m_taped_32 m_at m_token m_place m_value m_word m_bad m_badPlace m_fault m_faultPlace m_willing m_will m_forgot m_isDrawn m_x m_begin m_round m_roundCards m_fate m_any m_bothSend m_meanCards m_bestSum m_fitMany m_fitFirst m_fitSecond)), ((m_a 5), .inl (cB, 1600, .inl n_m_tape_c_32))] := hD
  dsimp only at hw32
  obtain ⟨hw32_0, hw32_1⟩ := hw32
  have hw32_1 : n_m_taped_32.toInt = n_m_taped_27.toInt + 4 := hw32_1
  refine lv_aload_n hx hb dX12_feed_35 rfl (lv_at hl 0 rfl) ?_
  refine lv_iload hx hb dX12_feed_36 (lv_at hl 4 rfl) ?_
  refine rw_v (wr := []) (va_runV (As := [.int p3]) (rest := []) ⟨hx, hb, hml, hown, hts⟩ (q_X12_four l g cI cJ cB cZ cL p3 m m_a 0 n_m_taped_32 m_at m_token m_place m_value m_word m_bad m_badPlace m_fault m_faultPlace m_willing m_will m_forgot m_isDrawn m_x m_begin m_round m_roundCards m_fate m_any m_bothSend m_meanCards m_bestSum m_fitMany m_fitFirst m_fitSecond n_m_tape_c_32 H.size (by omega) hv_m_at hv_m_will hv_m_isDrawn) (cwV 1 hts (goodIn_app (g_4 (List.mem_cons_of_mem _ (List.mem_append_left _ (List.mem_of_getElem? (i := 2) rfl))) (List.mem_cons_of_mem _ (List.mem_append_left _ (List.mem_of_getElem? (i := 3) rfl))) (List.mem_cons_of_mem _ (List.mem_append_left _ (List.mem_of_getElem? (i := 4) rfl))) (List.mem_cons_of_mem _ (List.mem_append_left _ (List.mem_of_getElem? (i := 5) rfl))) (by decide +kernel)) (goodIn_sub (fun _ h => List.mem_cons_of_mem _ (List.mem_append_right _ (List.mem_append_left _ h))) good_v_X12_four)) rfl rfl rfl (by decide +kernel) ⟨Nat.le_of_ble_eq_true rfl, Nat.le_of_ble_eq_true rfl⟩) (pv_RW (q := (RX12, TX12, 56)) (ci := 11) (q0 := 0) (wc := [(m, .inr (11, mG m_a 0 n_m_taped_32 m_at m_token m_place m_value m_word m_bad m_badPlace m_fault m_faultPlace m_willing m_will m_forgot m_isDrawn m_x m_begin m_round m_roundCards m_fate m_any m_bothSend m_meanCards m_bestSum m_fitMany m_fitFirst m_fitSecond)), ((m_a 5), .inl (cB, 1600, .inl n_m_tape_c_32))]) hK hP hD [0, 1] (by decide) rfl rfl rfl) rfl rfl hl.1 rfl (lv_room (Nat.le_of_ble_eq_true rfl)) dX12_feed_38 ⟨Nat.le_of_ble_eq_true rfl, Nat.le_of_ble_eq_true rfl⟩) hS hA hP hD [0, 1] [] rfl rfl (by decide) (by decide) (fun u38 H locs hw38 hP hD hS => ?_)
  obtain ⟨n_m_taped_38, n_m_tape_c_38⟩ := u38
  have hP : va_P g vwCl [(m, .inr (11, mG m_a 0 n_m_taped_38 m_at m_token m_place m_value m_word m_bad m_badPlace m_fault m_faultPlace m_willing m_will m_forgot m_isDrawn m_x m_begin m_round m_roundCards m_fate m_any m_bothSend m_meanCards m_bestSum m_fitMany m_fitFirst m_fitSecond)), ((m_a 5), .inl (cB, 1600, .inl n_m_tape_c_38))] H := hP
  have hD : va_D A [(m, .inr (11, mG m_a 0 n_m_taped_38 m_at m_token m_place m_value m_word m_bad m_badPlace m_fault m_faultPlace m_willing m_will m_forgot m_isDrawn m_x m_begin m_round m_roundCards m_fate m_any m_bothSend m_meanCards m_bestSum m_fitMany m_fitFirst m_fitSecond)), ((m_a 5), .inl (cB, 1600, .inl n_m_tape_c_38))] := hD
  dsimp only at hw38
  obtain ⟨hw38_0, hw38_1⟩ := hw38
  have hw38_1 : n_m_taped_38.toInt = n_m_taped_32.toInt + 4 := hw38_1
  refine lv_aload_n hx hb dX12_feed_41 rfl (lv_at hl 0 rfl) ?_
  refine lv_iload hx hb dX12_feed_42 (lv_at hl 5 rfl) ?_
  refine rw_v (wr := []) (va_runV (As := [.int p4]) (rest := []) ⟨hx, hb, hml, hown, hts⟩ (q_X12_four l g cI cJ cB cZ cL p4 m m_a 0 n_m_taped_38 m_at m_token m_place m_value m_word m_bad m_badPlace m_fault m_faultPlace m_willing m_will m_forgot m_isDrawn m_x m_begin m_round m_roundCards m_fate m_any m_bothSend m_meanCards m_bestSum m_fitMany m_fitFirst m_fitSecond n_m_tape_c_38 H.size (by omega) hv_m_at hv_m_will hv_m_isDrawn) (cwV 1 hts (goodIn_app (g_4 (List.mem_cons_of_mem _ (List.mem_append_left _ (List.mem_of_getElem? (i := 2) rfl))) (List.mem_cons_of_mem _ (List.mem_append_left _ (List.mem_of_getElem? (i := 3) rfl))) (List.mem_cons_of_mem _ (List.mem_append_left _ (List.mem_of_getElem? (i := 4) rfl))) (List.mem_cons_of_mem _ (List.mem_append_left _ (List.mem_of_getElem? (i := 5) rfl))) (by decide +kernel)) (goodIn_sub (fun _ h => List.mem_cons_of_mem _ (List.mem_append_right _ (List.mem_append_left _ h))) good_v_X12_four)) rfl rfl rfl (by decide +kernel) ⟨Nat.le_of_ble_eq_true rfl, Nat.le_of_ble_eq_true rfl⟩) (pv_RW (q := (RX12, TX12, 56)) (ci := 11) (q0 := 0) (wc := [(m, .inr (11, mG m_a 0 n_m_taped_38 m_at m_token m_place m_value m_word m_bad m_badPlace m_fault m_faultPlace m_willing m_will m_forgot m_isDrawn m_x m_begin m_round m_roundCards m_fate m_any m_bothSend m_meanCards m_bestSum m_fitMany m_fitFirst m_fitSecond)), ((m_a 5), .inl (cB, 1600, .inl n_m_tape_c_38))]) hK hP hD [0, 1] (by decide) rfl rfl rfl) rfl rfl hl.1 rfl (lv_room (Nat.le_of_ble_eq_true rfl)) dX12_feed_44 ⟨Nat.le_of_ble_eq_true rfl, Nat.le_of_ble_eq_true rfl⟩) hS hA hP hD [0, 1] [] rfl rfl (by decide) (by decide) (fun u44 H locs hw44 hP hD hS => ?_)
  obtain ⟨n_m_taped_44, n_m_tape_c_44⟩ := u44
  have hP : va_P g vwCl [(m, .inr (11, mG m_a 0 n_m_taped_44 m_at m_token m_place m_value m_word m_bad m_badPlace m_fault m_faultPlace m_willing m_will m_forgot m_isDrawn m_x m_begin m_round m_roundCards m_fate m_any m_bothSend m_meanCards m_bestSum m_fitMany m_fitFirst m_fitSecond)), ((m_a 5), .inl (cB, 1600, .inl n_m_tape_c_44))] H := hP
  have hD : va_D A [(m, .inr (11, mG m_a 0 n_m_taped_44 m_at m_token m_place m_value m_word m_bad m_badPlace m_fault m_faultPlace m_willing m_will m_forgot m_isDrawn m_x m_begin m_round m_roundCards m_fate m_any m_bothSend m_meanCards m_bestSum m_fitMany m_fitFirst m_fitSecond)), ((m_a 5), .inl (cB, 1600, .inl n_m_tape_c_44))] := hD
  dsimp only at hw44
  obtain ⟨hw44_0, hw44_1⟩ := hw44
  have hw44_1 : n_m_taped_44.toInt = n_m_taped_38.toInt + 4 := hw44_1
  refine lv_aload_n hx hb dX12_feed_47 rfl (lv_at hl 0 rfl) ?_
  refine va_get (D := g) (ci := 11) (v := .int n_m_taped_44) (C := RX12) (T := TX12) (N := 56) hx hb hts iX12 hown hK hP 0 rfl rfl 6 (by decide) (hts (.fieldLink RX12 124 "CardsAtYuleModel" "taped" "I") (List.mem_cons_of_mem _ (List.mem_append_left _ (List.mem_of_getElem? (i := 1) rfl)))) (fun _ h9 => h9) rfl dX12_feed_48 ?_
  subst hQ
  have hP9 := hP.sub (ws' := [(m, .inr (11, mG m_a 0 n_m_taped_44 m_at m_token m_place m_value m_word m_bad m_badPlace m_fault m_faultPlace m_willing m_will m_forgot m_isDrawn m_x m_begin m_round m_roundCards m_fate m_any m_bothSend m_meanCards m_bestSum m_fitMany m_fitFirst m_fitSecond)), ((m_a 5), .inl (cB, 1600, .inl n_m_tape_c_44))]) [0, 1] rfl
  have hD9 := hD.sub (ws' := [(m, .inr (11, mG m_a 0 n_m_taped_44 m_at m_token m_place m_value m_word m_bad m_badPlace m_fault m_faultPlace m_willing m_will m_forgot m_isDrawn m_x m_begin m_round m_roundCards m_fate m_any m_bothSend m_meanCards m_bestSum m_fitMany m_fitFirst m_fitSecond)), ((m_a 5), .inl (cB, 1600, .inl n_m_tape_c_44))]) [0, 1] (by decide) rfl
  exact W.iret (v := n_m_taped_44) hx hb hr (fun t ht hW => ⟨⟨n_m_taped_44, (0, n_m_taped_44, n_m_tape_c_44), rfl, ⟨(show ir (0 : Int32).toInt 0 0 by decide), hw44_0, (ir_w hw44_0 (by decide) (by decide))⟩, ⟨by rw [ht]; exact hP9, va_K.moved hW.alike hK, hD9⟩⟩, hS.F ht⟩) hS.2.2 dX12_feed_51
def v_X12_end : List Cond := .code yX12_end cX12_end 2 (some .int) :: (([.fieldLink RX12 107 "CardsAtYuleModel" "thrown" "I", .fieldLink RX12 124 "CardsAtYuleModel" "taped" "I", .methodLink RX12 112 yX12_in, .static yX12_in, .initialized RX12] : List Cond) ++ (v_X12_in ++ (wsX120 ++ ([] : List Cond))))
theorem good_v_X12_end : v_X12_end.all goodWord = true := ga_c (by decide +kernel) (ga_a (by decide +kernel) (ga_a good_v_X12_in (ga_a good_wsX120 rfl)))
set_option maxHeartbeats 4000000 in
set_option maxRecDepth 100000 in
theorem q_X12_end (l : Launch) (g : va_G) (cI cJ cB cZ cL : ClassId) (p0 : Int32) (m : Nat) (m_a : Nat → Nat) (m_thrown : Int32) (m_taped : Int32) (m_at : Int32) (m_token : Int32) (m_place : Int32) (m_value : Int32) (m_word : Int64) (m_bad : Int32) (m_badPlace : Int32) (m_fault : Int32) (m_faultPlace : Int32) (m_willing : Int32) (m_will : Int32) (m_forgot : Int32) (m_isDrawn : Int32) (m_x : Int64) (m_begin : Int32) (m_round : Int32) (m_roundCards : Int32) (m_fate : Int32) (m_any : Int64) (m_bothSend : Int64) (m_meanCards : Int64) (m_bestSum : Int32) (m_fitMany : Int32) (m_fitFirst : Int64) (m_fitSecond : Int64) (sz : Nat) (hv_m_taped : ir m_taped.toInt 0 1600) (hv_m_at : ir m_at.toInt 0 1600) (hv_m_will : ir m_will.toInt 0 1) (hv_m_isDrawn : ir m_isDrawn.toInt 0 1) : Met l yX12_end v_X12_end ({ frames := 1, cells := 0, slots := 0, locals := 25 }) (va_Pc [.ref m, .int p0] (pRW g (tyT cI cJ cB cZ cL) [(m, .inr (11, mG m_a m_thrown m_taped m_at m_token m_place m_value m_word m_bad m_badPlace m_fault m_faultPlace m_willing m_will m_forgot m_isDrawn m_x m_begin m_round m_roundCards m_fate m_any m_bothSend m_meanCards m_bestSum m_fitMany m_fitFirst m_fitSecond))] sz)) (va_Qi (fun (r : Int32) (u : Int32 × Int32) => match u with | (n_m_thrown, n_m_taped) => (ir n_m_thrown.toInt 0 0) ∧ (ir n_m_taped.toInt 0 1600) ∧ (ir r.toInt (-1) 1600)) (fun (u : Int32 × Int32) (t : State) => bRW g (tyT cI cJ cB cZ cL) (va_A [(m, .inr (11, mG m_a m_thrown m_taped m_at m_token m_place m_value m_word m_bad m_badPlace m_fault m_faultPlace m_willing m_will m_forgot m_isDrawn m_x m_begin m_round m_roundCards m_fate m_any m_bothSend m_meanCards m_bestSum m_fitMany m_fitFirst m_fitSecond))] sz) (match u with | (n_m_thrown, n_m_taped) => [(m, .inr (11, mG m_a n_m_thrown n_m_taped m_at m_token m_place m_value m_word m_bad m_badPlace m_fault m_faultPlace m_willing m_will m_forgot m_isDrawn m_x m_begin m_round m_roundCards m_fate m_any m_bothSend m_meanCards m_bestSum m_fitMany m_fitFirst m_fitSecond))]) t) (va_A [(m, .inr (11, mG m_a m_thrown m_taped m_at m_token m_place m_value m_word m_bad m_badPlace m_fault m_faultPlace m_willing m_will m_forgot m_isDrawn m_x m_begin m_round m_roundCards m_fate m_any m_bothSend m_meanCards m_bestSum m_fitMany m_fitFirst m_fitSecond))] sz)) 0 0 (va_A [(m, .inr (11, mG m_a m_thrown m_taped m_at m_token m_place m_value m_word m_bad m_badPlace m_fault m_faultPlace m_willing m_will m_forgot m_isDrawn m_x m_begin m_round m_roundCards m_fate m_any m_bothSend m_meanCards m_bestSum m_fitMany m_fitFirst m_fitSecond))] sz) := by
  refine Met.ofW (cc := cX12_end) (maxL := 2) (ret := (some .int)) (by decide) rfl ?_
  intro p e s mth args below meth c s₁ B hml hv
  obtain ⟨rfl, hsz, hP, hK, hD0⟩ := hv
  have hx := B.exec
  have hb := B.bytes
  have hr := B.returns
  have hts := atoms_spec (ws := v_X12_end) B.pre
  have hown : s.vm.findClass RX12 = some mth.cls := findClass_of_methodNamed B.named
  have hlocks := B.notSynchronized
  clear B
  subst hsz
  have iX12 : ∀ w ∈ wsX120, w ∈ v_X12_end := (fun _ h => List.mem_cons_of_mem _ (List.mem_append_right _ (List.mem_append_right _ (List.mem_append_left _ h))))
  have hD := hD0.self (sz := s.heap.size)
  generalize hAe : (va_A [(m, .inr (11, mG m_a m_thrown m_taped m_at m_token m_place m_value m_word m_bad m_badPlace m_fault m_faultPlace m_willing m_will m_forgot m_isDrawn m_x m_begin m_round m_roundCards m_fate m_any m_bothSend m_meanCards m_bestSum m_fitMany m_fitFirst m_fitSecond))] s.heap.size) = A at hD ⊢
  have hA : ∀ q : Nat, s.heap.size ≤ q → A q := fun q h => by rw [← hAe]; exact Or.inr h
  have hS : va_S A s.heap s.heap [] := va_S.rf
  have hl := lv_entry ([.ref m, .int p0]) (n := 2) (Nat.le_of_ble_eq_true rfl)
  rw [lg_entry_eq]
  generalize (lg_sl ([.ref m, .int p0]) ++ List.replicate (2 - (lg_sl ([.ref m, .int p0])).length) Slot.unset).toArray = ls at hl ⊢
  generalize ([.ref m, .int p0] : List Value).toArray = av at hts ⊢
  generalize hQ : MQ below _ av s _ _ A = QQ
  have hl : lv_has ls 2 [(0, .ref m), (1, .int p0)] := hl
  have hP : va_P g vwCl [(m, .inr (11, mG m_a m_thrown m_taped m_at m_token m_place m_value m_word m_bad m_badPlace m_fault m_faultPlace m_willing m_will m_forgot m_isDrawn m_x m_begin m_round m_roundCards m_fate m_any m_bothSend m_meanCards m_bestSum m_fitMany m_fitFirst m_fitSecond))] s.heap := hP
  refine lv_aload_n hx hb dX12_end_0 rfl (lv_at hl 0 rfl) ?_
  refine lv_iconst (v := 0) hx hb dX12_end_1 (by decide) ?_
  refine va_put (D := g) (ci := 11) (v := .int 0) (ty := .int) (C := RX12) (T := TX12) (N := 56) hx hb hts iX12 tyX12 tyX12_ok nmX12 hown hK hP hD hS 0 rfl rfl 0 (by decide) (hts (.fieldLink RX12 107 "CardsAtYuleModel" "thrown" "I") (List.mem_cons_of_mem _ (List.mem_append_left _ (List.mem_of_getElem? (i := 0) rfl)))) (fun _ h9 => h9) rfl (by decide +kernel) rfl rfl (Nat.le_of_ble_eq_true rfl) dX12_end_2 (fun H locs hP hD hS => ?_)
  have hP : va_P g vwCl [(m, .inr (11, mG m_a 0 m_taped m_at m_token m_place m_value m_word m_bad m_badPlace m_fault m_faultPlace m_willing m_will m_forgot m_isDrawn m_x m_begin m_round m_roundCards m_fate m_any m_bothSend m_meanCards m_bestSum m_fitMany m_fitFirst m_fitSecond))] H := hP
  have hD : va_D A [(m, .inr (11, mG m_a 0 m_taped m_at m_token m_place m_value m_word m_bad m_badPlace m_fault m_faultPlace m_willing m_will m_forgot m_isDrawn m_x m_begin m_round m_roundCards m_fate m_any m_bothSend m_meanCards m_bestSum m_fitMany m_fitFirst m_fitSecond))] := hD
  refine lv_iload_n hx hb dX12_end_5 rfl (lv_at hl 1 rfl) ?_
  refine lv_i2l (v := p0.toInt64) hx hb dX12_end_6 rfl ?_
  refine lv_lconst (v := 0) hx hb dX12_end_7 (by decide) ?_
  refine lv_aload_n hx hb dX12_end_8 rfl (lv_at hl 0 rfl) ?_
  refine va_get (D := g) (ci := 11) (v := .int m_taped) (C := RX12) (T := TX12) (N := 56) hx hb hts iX12 hown hK hP 0 rfl rfl 6 (by decide) (hts (.fieldLink RX12 124 "CardsAtYuleModel" "taped" "I") (List.mem_cons_of_mem _ (List.mem_append_left _ (List.mem_of_getElem? (i := 1) rfl)))) (fun _ h9 => h9) rfl dX12_end_9 ?_
  refine lv_i2l (v := m_taped.toInt64) hx hb dX12_end_12 rfl ?_
  refine ro_i (va_runS (As := [.long p0.toInt64, .long 0, .long m_taped.toInt64]) (rest := []) ⟨hx, hb, hml, hown, hts⟩ (q_X12_in l g cI cJ cB cZ cL p0.toInt64 p0.toInt 0 0 m_taped.toInt64 m_taped.toInt H.size (z_i2l rfl) rfl (z_i2l rfl)) (va_cwS 3 hts (goodIn_app (g_3 (List.mem_cons_of_mem _ (List.mem_append_left _ (List.mem_of_getElem? (i := 2) rfl))) (List.mem_cons_of_mem _ (List.mem_append_left _ (List.mem_of_getElem? (i := 3) rfl))) (List.mem_cons_of_mem _ (List.mem_append_left _ (List.mem_of_getElem? (i := 4) rfl))) (by decide +kernel)) (goodIn_sub (fun _ h => List.mem_cons_of_mem _ (List.mem_append_right _ (List.mem_append_left _ h))) good_v_X12_in)) rfl rfl rfl (by decide +kernel) ⟨Nat.le_of_ble_eq_true rfl, Nat.le_of_ble_eq_true rfl⟩) (ps_RO (wc := []) hK hP [] rfl) rfl rfl hl.1 rfl (lv_room (Nat.le_of_ble_eq_true rfl)) dX12_end_13 ⟨Nat.le_of_ble_eq_true rfl, Nat.le_of_ble_eq_true rfl⟩) hS hA hP (fun r13 u13 H locs hw13 hP hS => ?_)
  have hw13_0 := hw13
  rcases hw13_0 with ⟨er13, fc13_0, fc13_1⟩ | er13
  rotate_left 1
  · subst er13
    refine lv_if_ne (tgt := 21) hx hb dX12_end_16 (by decide) (fun c => absurd c (by decide)) (fun _ => ?_)
    refine lv_iconst (v := (-1)) hx hb dX12_end_19 (by decide) ?_
    subst hQ
    have hP9 := hP.sub (ws' := [(m, .inr (11, mG m_a 0 m_taped m_at m_token m_place m_value m_word m_bad m_badPlace m_fault m_faultPlace m_willing m_will m_forgot m_isDrawn m_x m_begin m_round m_roundCards m_fate m_any m_bothSend m_meanCards m_bestSum m_fitMany m_fitFirst m_fitSecond))]) [0] rfl
    have hD9 := hD.sub (ws' := [(m, .inr (11, mG m_a 0 m_taped m_at m_token m_place m_value m_word m_bad m_badPlace m_fault m_faultPlace m_willing m_will m_forgot m_isDrawn m_x m_begin m_round m_roundCards m_fate m_any m_bothSend m_meanCards m_bestSum m_fitMany m_fitFirst m_fitSecond))]) [0] (by decide) rfl
    exact W.iret (v := (-1)) hx hb hr (fun t ht hW => ⟨⟨(-1), (0, m_taped), rfl, ⟨(show ir (0 : Int32).toInt 0 0 by decide), hv_m_taped, (show ir ((-1) : Int32).toInt (-1) 1600 by decide)⟩, ⟨by rw [ht]; exact hP9, va_K.moved hW.alike hK, hD9⟩⟩, hS.F ht⟩) hS.2.2 dX12_end_20
  subst er13
  have fc13_0 : 0 ≤ p0.toInt := fc13_0
  have r13_0b : ir p0.toInt 0 2147483647 := ir_leb fc13_0 (ir_c 0) (rg_all p0) (by decide)
  have fc13_1 : p0.toInt ≤ m_taped.toInt := fc13_1
  have r13_1a : ir p0.toInt 0 1600 := ir_lea fc13_1 r13_0b hv_m_taped (by decide)
  refine lv_if_ne (tgt := 21) hx hb dX12_end_16 (by decide) (fun _ => ?_) (fun c => absurd c (by decide))
  refine lv_aload_n hx hb dX12_end_21 rfl (lv_at hl 0 rfl) ?_
  refine lv_iload_n hx hb dX12_end_22 rfl (lv_at hl 1 rfl) ?_
  refine va_put (D := g) (ci := 11) (v := .int p0) (ty := .int) (C := RX12) (T := TX12) (N := 56) hx hb hts iX12 tyX12 tyX12_ok nmX12 hown hK hP hD hS 0 rfl rfl 6 (by decide) (hts (.fieldLink RX12 124 "CardsAtYuleModel" "taped" "I") (List.mem_cons_of_mem _ (List.mem_append_left _ (List.mem_of_getElem? (i := 1) rfl)))) (fun _ h9 => h9) rfl (by decide +kernel) rfl rfl (Nat.le_of_ble_eq_true rfl) dX12_end_23 (fun H locs hP hD hS => ?_)
  have hP : va_P g vwCl [(m, .inr (11, mG m_a 0 p0 m_at m_token m_place m_value m_word m_bad m_badPlace m_fault m_faultPlace m_willing m_will m_forgot m_isDrawn m_x m_begin m_round m_roundCards m_fate m_any m_bothSend m_meanCards m_bestSum m_fitMany m_fitFirst m_fitSecond))] H := hP
  have hD : va_D A [(m, .inr (11, mG m_a 0 p0 m_at m_token m_place m_value m_word m_bad m_badPlace m_fault m_faultPlace m_willing m_will m_forgot m_isDrawn m_x m_begin m_round m_roundCards m_fate m_any m_bothSend m_meanCards m_bestSum m_fitMany m_fitFirst m_fitSecond))] := hD
  refine lv_iload_n hx hb dX12_end_26 rfl (lv_at hl 1 rfl) ?_
  subst hQ
  have hP9 := hP.sub (ws' := [(m, .inr (11, mG m_a 0 p0 m_at m_token m_place m_value m_word m_bad m_badPlace m_fault m_faultPlace m_willing m_will m_forgot m_isDrawn m_x m_begin m_round m_roundCards m_fate m_any m_bothSend m_meanCards m_bestSum m_fitMany m_fitFirst m_fitSecond))]) [0] rfl
  have hD9 := hD.sub (ws' := [(m, .inr (11, mG m_a 0 p0 m_at m_token m_place m_value m_word m_bad m_badPlace m_fault m_faultPlace m_willing m_will m_forgot m_isDrawn m_x m_begin m_round m_roundCards m_fate m_any m_bothSend m_meanCards m_bestSum m_fitMany m_fitFirst m_fitSecond))]) [0] (by decide) rfl
  exact W.iret (v := p0) hx hb hr (fun t ht hW => ⟨⟨p0, (0, p0), rfl, ⟨(show ir (0 : Int32).toInt 0 0 by decide), r13_1a, (ir_w r13_1a (by decide) (by decide))⟩, ⟨by rw [ht]; exact hP9, va_K.moved hW.alike hK, hD9⟩⟩, hS.F ht⟩) hS.2.2 dX12_end_27
def v_X12_isByte : List Cond := .code yX12_isByte cX12_isByte 4 (some .boolean) :: (([.fieldLink RX12 124 "CardsAtYuleModel" "taped" "I", .fieldLink RX12 23 "CardsAtYuleModel" "tape" "[B"] : List Cond) ++ (wsX120 ++ ([] : List Cond)))
theorem good_v_X12_isByte : v_X12_isByte.all goodWord = true := ga_c (by decide +kernel) (ga_a (by decide +kernel) (ga_a good_wsX120 rfl))
set_option maxHeartbeats 4000000 in
set_option maxRecDepth 100000 in
theorem q_X12_isByte (l : Launch) (g : va_G) (cI cJ cB cZ cL : ClassId) (p0 : Int32) (p1 : Int32) (p2 : Int32) (m : Nat) (m_a : Nat → Nat) (m_thrown : Int32) (m_taped : Int32) (m_at : Int32) (m_token : Int32) (m_place : Int32) (m_value : Int32) (m_word : Int64) (m_bad : Int32) (m_badPlace : Int32) (m_fault : Int32) (m_faultPlace : Int32) (m_willing : Int32) (m_will : Int32) (m_forgot : Int32) (m_isDrawn : Int32) (m_x : Int64) (m_begin : Int32) (m_round : Int32) (m_roundCards : Int32) (m_fate : Int32) (m_any : Int64) (m_bothSend : Int64) (m_meanCards : Int64) (m_bestSum : Int32) (m_fitMany : Int32) (m_fitFirst : Int64) (m_fitSecond : Int64) (m_tape_c : Nat → Int32) (sz : Nat) (hv_p0 : ir p0.toInt 0 1600) (hv_m_taped : ir m_taped.toInt 0 1600) (hv_m_at : ir m_at.toInt 0 1600) (hv_m_will : ir m_will.toInt 0 1) (hv_m_isDrawn : ir m_isDrawn.toInt 0 1) : Met l yX12_isByte v_X12_isByte ({ frames := 0, cells := 0, slots := 0, locals := 0 }) (va_Pc [.ref m, .int p0, .int p1, .int p2] (pRO g (tyT cI cJ cB cZ cL) [(m, .inr (11, mG m_a m_thrown m_taped m_at m_token m_place m_value m_word m_bad m_badPlace m_fault m_faultPlace m_willing m_will m_forgot m_isDrawn m_x m_begin m_round m_roundCards m_fate m_any m_bothSend m_meanCards m_bestSum m_fitMany m_fitFirst m_fitSecond)), ((m_a 5), .inl (cB, 1600, .inl m_tape_c))] sz)) (va_Qi (fun (r : Int32) (u : Unit) => ((r = 1 ∧ p0.toInt < m_taped.toInt ∧ p1.toInt ≤ (m_tape_c p0.toNatClampNeg).toInt ∧ (m_tape_c p0.toNatClampNeg).toInt ≤ p2.toInt) ∨ (r = 0 ∧ ¬ (p0.toInt < m_taped.toInt ∧ p1.toInt ≤ (m_tape_c p0.toNatClampNeg).toInt ∧ (m_tape_c p0.toNatClampNeg).toInt ≤ p2.toInt)))) (fun (_ : Unit) (_ : State) => True) (va_A [] sz)) 0 0 (va_A [] sz) := by
  refine Met.ofW (cc := cX12_isByte) (maxL := 4) (ret := (some .boolean)) (by decide) rfl ?_
  intro p e s mth args below meth c s₁ B hml hv
  obtain ⟨rfl, hsz, hP, hK⟩ := hv
  have hx := B.exec
  have hb := B.bytes
  have hr := B.returns
  have hts := atoms_spec (ws := v_X12_isByte) B.pre
  have hown : s.vm.findClass RX12 = some mth.cls := findClass_of_methodNamed B.named
  have hlocks := B.notSynchronized
  clear B
  subst hsz
  have iX12 : ∀ w ∈ wsX120, w ∈ v_X12_isByte := (fun _ h => List.mem_cons_of_mem _ (List.mem_append_right _ (List.mem_append_left _ h)))
  generalize hAe : (va_A [] s.heap.size) = A
  have hA : ∀ q : Nat, s.heap.size ≤ q → A q := fun q h => by rw [← hAe]; exact Or.inr h
  have hS : va_S A s.heap s.heap [] := va_S.rf
  have hl := lv_entry ([.ref m, .int p0, .int p1, .int p2]) (n := 4) (Nat.le_of_ble_eq_true rfl)
  rw [lg_entry_eq]
  generalize (lg_sl ([.ref m, .int p0, .int p1, .int p2]) ++ List.replicate (4 - (lg_sl ([.ref m, .int p0, .int p1, .int p2])).length) Slot.unset).toArray = ls at hl ⊢
  generalize ([.ref m, .int p0, .int p1, .int p2] : List Value).toArray = av at hts ⊢
  generalize hQ : MQ below _ av s _ _ A = QQ
  have hl : lv_has ls 4 [(0, .ref m), (1, .int p0), (2, .int p1), (3, .int p2)] := hl
  have hP : va_P g vwCl [(m, .inr (11, mG m_a m_thrown m_taped m_at m_token m_place m_value m_word m_bad m_badPlace m_fault m_faultPlace m_willing m_will m_forgot m_isDrawn m_x m_begin m_round m_roundCards m_fate m_any m_bothSend m_meanCards m_bestSum m_fitMany m_fitFirst m_fitSecond)), ((m_a 5), .inl (cB, 1600, .inl m_tape_c))] s.heap := hP
  refine lv_iload_n hx hb dX12_isByte_0 rfl (lv_at hl 1 rfl) ?_
  refine lv_aload_n hx hb dX12_isByte_1 rfl (lv_at hl 0 rfl) ?_
  refine va_get (D := g) (ci := 11) (v := .int m_taped) (C := RX12) (T := TX12) (N := 56) hx hb hts iX12 hown hK hP 0 rfl rfl 6 (by decide) (hts (.fieldLink RX12 124 "CardsAtYuleModel" "taped" "I") (List.mem_cons_of_mem _ (List.mem_append_left _ (List.mem_of_getElem? (i := 0) rfl)))) (fun _ h9 => h9) rfl dX12_isByte_2 ?_
  refine lv_icmp_ge (tgt := 32) hx hb dX12_isByte_5 (by decide) (fun c5 => ?_) (fun c5 => ?_)
  · have f5 := (show m_taped.toInt ≤ p0.toInt from z_le rfl rfl c5)
    refine lv_iconst (v := 0) hx hb dX12_isByte_32 (by decide) ?_
    subst hQ
    exact W.zret (v := 0) hx hb hr rfl (fun t ht hW => ⟨⟨0, (), rfl, (Or.inr ⟨rfl, (by first | omega | decide)⟩), trivial⟩, hS.F ht⟩) hS.2.2 dX12_isByte_33
  have f5 := (show p0.toInt < m_taped.toInt from z_nle rfl rfl c5)
  have r5a : ir p0.toInt 0 1599 := ir_lta f5 hv_p0 hv_m_taped (by decide)
  have r5b : ir m_taped.toInt 1 1600 := ir_ltb f5 hv_p0 hv_m_taped (by decide)
  refine lv_aload_n hx hb dX12_isByte_8 rfl (lv_at hl 0 rfl) ?_
  refine va_get (D := g) (ci := 11) (v := .ref (m_a 5)) (C := RX12) (T := TX12) (N := 56) hx hb hts iX12 hown hK hP 0 rfl rfl 5 (by decide) (hts (.fieldLink RX12 23 "CardsAtYuleModel" "tape" "[B") (List.mem_cons_of_mem _ (List.mem_append_left _ (List.mem_of_getElem? (i := 1) rfl)))) (fun _ h9 => h9) rfl dX12_isByte_9 ?_
  refine lv_iload_n hx hb dX12_isByte_12 rfl (lv_at hl 1 rfl) ?_
  refine va_bald (D := g) hx hb hK hP 1 2 rfl rfl (vi_rg rfl r5a (by decide) (by decide)) dX12_isByte_13 ?_
  refine lv_iload_n hx hb dX12_isByte_14 rfl (lv_at hl 2 rfl) ?_
  refine lv_icmp_lt (tgt := 32) hx hb dX12_isByte_15 (by decide) (fun c15 => ?_) (fun c15 => ?_)
  · have f15 := (show (m_tape_c p0.toNatClampNeg).toInt < p1.toInt from z_lt rfl rfl c15)
    have r15a : ir (m_tape_c p0.toNatClampNeg).toInt (-2147483648) 2147483646 := ir_lta f15 (rg_all (m_tape_c p0.toNatClampNeg)) (rg_all p1) (by decide)
    have r15b : ir p1.toInt (-2147483647) 2147483647 := ir_ltb f15 (rg_all (m_tape_c p0.toNatClampNeg)) (rg_all p1) (by decide)
    refine lv_iconst (v := 0) hx hb dX12_isByte_32 (by decide) ?_
    subst hQ
    exact W.zret (v := 0) hx hb hr rfl (fun t ht hW => ⟨⟨0, (), rfl, (Or.inr ⟨rfl, (by first | omega | decide)⟩), trivial⟩, hS.F ht⟩) hS.2.2 dX12_isByte_33
  have f15 := (show p1.toInt ≤ (m_tape_c p0.toNatClampNeg).toInt from z_nlt rfl rfl c15)
  refine lv_aload_n hx hb dX12_isByte_18 rfl (lv_at hl 0 rfl) ?_
  refine va_get (D := g) (ci := 11) (v := .ref (m_a 5)) (C := RX12) (T := TX12) (N := 56) hx hb hts iX12 hown hK hP 0 rfl rfl 5 (by decide) (hts (.fieldLink RX12 23 "CardsAtYuleModel" "tape" "[B") (List.mem_cons_of_mem _ (List.mem_append_left _ (List.mem_of_getElem? (i := 1) rfl)))) (fun _ h9 => h9) rfl dX12_isByte_19 ?_
  refine lv_iload_n hx hb dX12_isByte_22 rfl (lv_at hl 1 rfl) ?_
  refine va_bald (D := g) hx hb hK hP 1 2 rfl rfl (vi_rg rfl r5a (by decide) (by decide)) dX12_isByte_23 ?_
  refine lv_iload_n hx hb dX12_isByte_24 rfl (lv_at hl 3 rfl) ?_
  refine lv_icmp_gt (tgt := 32) hx hb dX12_isByte_25 (by decide) (fun c25 => ?_) (fun c25 => ?_)
  rotate_left 1
  · have f25 := (show (m_tape_c p0.toNatClampNeg).toInt ≤ p2.toInt from z_nlt rfl rfl c25)
    refine lv_iconst (v := 1) hx hb dX12_isByte_28 (by decide) ?_
    refine lv_goto (tgt := 33) hx hb dX12_isByte_29 (by decide) ?_
    subst hQ
    exact W.zret (v := 1) hx hb hr rfl (fun t ht hW => ⟨⟨1, (), rfl, (Or.inl ⟨rfl, (by first | omega | decide), (by first | omega | decide)⟩), trivial⟩, hS.F ht⟩) hS.2.2 dX12_isByte_33
  have f25 := (show p2.toInt < (m_tape_c p0.toNatClampNeg).toInt from z_lt rfl rfl c25)
  have r25a : ir (m_tape_c p0.toNatClampNeg).toInt (-2147483647) 2147483647 := ir_ltb f25 (rg_all p2) (rg_all (m_tape_c p0.toNatClampNeg)) (by decide)
  have r25b : ir p2.toInt (-2147483648) 2147483646 := ir_lta f25 (rg_all p2) (rg_all (m_tape_c p0.toNatClampNeg)) (by decide)
  refine lv_iconst (v := 0) hx hb dX12_isByte_32 (by decide) ?_
  subst hQ
  exact W.zret (v := 0) hx hb hr rfl (fun t ht hW => ⟨⟨0, (), rfl, (Or.inr ⟨rfl, (by first | omega | decide)⟩), trivial⟩, hS.F ht⟩) hS.2.2 dX12_isByte_33
def v_X12_next : List Cond := .code yX12_next cX12_next 2 none :: (([.fieldLink RX12 131 "CardsAtYuleModel" "at" "I", .methodLink RX12 134 yX12_isByte, .instanceMethod yX12_isByte, .selects RX12 yX12_isByte yX12_isByte, .initialized RX12, .fieldLink RX12 138 "CardsAtYuleModel" "place" "I", .fieldLink RX12 141 "CardsAtYuleModel" "value" "I", .fieldLink RX12 144 "CardsAtYuleModel" "word" "J", .fieldLink RX12 124 "CardsAtYuleModel" "taped" "I", .fieldLink RX12 148 "CardsAtYuleModel" "token" "I", .constantLong RX12 151 (-1), .constantLong RX12 153 (27), .fieldLink RX12 23 "CardsAtYuleModel" "tape" "[B", .constantLong RX12 155 (96), .constant RX12 157 (100000), .constant RX12 158 (1000000)] : List Cond) ++ (v_X12_isByte ++ (wsX120 ++ ([] : List Cond))))
theorem good_v_X12_next : v_X12_next.all goodWord = true := ga_c (by decide +kernel) (ga_a (by decide +kernel) (ga_a good_v_X12_isByte (ga_a good_wsX120 rfl)))
set_option maxHeartbeats 4000000 in
set_option maxRecDepth 100000 in
theorem q_X12_next (l : Launch) (g : va_G) (cI cJ cB cZ cL : ClassId) (m : Nat) (m_a : Nat → Nat) (m_thrown : Int32) (m_taped : Int32) (m_at : Int32) (m_token : Int32) (m_place : Int32) (m_value : Int32) (m_word : Int64) (m_bad : Int32) (m_badPlace : Int32) (m_fault : Int32) (m_faultPlace : Int32) (m_willing : Int32) (m_will : Int32) (m_forgot : Int32) (m_isDrawn : Int32) (m_x : Int64) (m_begin : Int32) (m_round : Int32) (m_roundCards : Int32) (m_fate : Int32) (m_any : Int64) (m_bothSend : Int64) (m_meanCards : Int64) (m_bestSum : Int32) (m_fitMany : Int32) (m_fitFirst : Int64) (m_fitSecond : Int64) (m_tape_c : Nat → Int32) (sz : Nat) (hv_m_taped : ir m_taped.toInt 0 1600) (hv_m_at : ir m_at.toInt 0 1600) (hv_m_will : ir m_will.toInt 0 1) (hv_m_isDrawn : ir m_isDrawn.toInt 0 1) (hx_0 : m_at.toInt ≤ m_taped.toInt) : Met l yX12_next v_X12_next ({ frames := 1, cells := 0, slots := 0, locals := 23 }) (va_Pc [.ref m] (pRW g (tyT cI cJ cB cZ cL) [(m, .inr (11, mG m_a m_thrown m_taped m_at m_token m_place m_value m_word m_bad m_badPlace m_fault m_faultPlace m_willing m_will m_forgot m_isDrawn m_x m_begin m_round m_roundCards m_fate m_any m_bothSend m_meanCards m_bestSum m_fitMany m_fitFirst m_fitSecond)), ((m_a 5), .inl (cB, 1600, .inl m_tape_c))] sz)) (va_Qv (fun (u : Int32 × Int32 × Int32 × Int32 × Int64) => match u with | (n_m_at, n_m_token, n_m_place, n_m_value, n_m_word) => (ir n_m_at.toInt 0 1600) ∧ (ir n_m_token.toInt 0 4) ∧ (ir n_m_place.toInt 0 1600) ∧ ((m_at.toInt ≤ n_m_at.toInt ∧ n_m_at.toInt ≤ m_taped.toInt ∧ 0 ≤ n_m_token.toInt ∧ n_m_token.toInt ≤ 4 ∧ (m_at.toInt < n_m_at.toInt ∨ (n_m_token.toInt = 0 ∧ n_m_at.toInt = m_taped.toInt))))) (fun (u : Int32 × Int32 × Int32 × Int32 × Int64) (t : State) => bRW g (tyT cI cJ cB cZ cL) (va_A [(m, .inr (11, mG m_a m_thrown m_taped m_at m_token m_place m_value m_word m_bad m_badPlace m_fault m_faultPlace m_willing m_will m_forgot m_isDrawn m_x m_begin m_round m_roundCards m_fate m_any m_bothSend m_meanCards m_bestSum m_fitMany m_fitFirst m_fitSecond)), ((m_a 5), .inl (cB, 1600, .inl m_tape_c))] sz) (match u with | (n_m_at, n_m_token, n_m_place, n_m_value, n_m_word) => [(m, .inr (11, mG m_a m_thrown m_taped n_m_at n_m_token n_m_place n_m_value n_m_word m_bad m_badPlace m_fault m_faultPlace m_willing m_will m_forgot m_isDrawn m_x m_begin m_round m_roundCards m_fate m_any m_bothSend m_meanCards m_bestSum m_fitMany m_fitFirst m_fitSecond)), ((m_a 5), .inl (cB, 1600, .inl m_tape_c))]) t) (va_A [(m, .inr (11, mG m_a m_thrown m_taped m_at m_token m_place m_value m_word m_bad m_badPlace m_fault m_faultPlace m_willing m_will m_forgot m_isDrawn m_x m_begin m_round m_roundCards m_fate m_any m_bothSend m_meanCards m_bestSum m_fitMany m_fitFirst m_fitSecond)), ((m_a 5), .inl (cB, 1600, .inl m_tape_c))] sz)) 0 0 (va_A [(m, .inr (11, mG m_a m_thrown m_taped m_at m_token m_place m_value m_word m_bad m_badPlace m_fault m_faultPlace m_willing m_will m_forgot m_isDrawn m_x m_begin m_round m_roundCards m_fate m_any m_bothSend m_meanCards m_bestSum m_fitMany m_fitFirst m_fitSecond)), ((m_a 5), .inl (cB, 1600, .inl m_tape_c))] sz) := by
  refine Met.ofW (cc := cX12_next) (maxL := 2) (ret := none) (by decide) rfl ?_
  intro p e s mth args below meth c s₁ B hml hv
  obtain ⟨rfl, hsz, hP, hK, hD0⟩ := hv
  have hx := B.exec
  have hb := B.bytes
  have hr := B.returns
  have hts := atoms_spec (ws := v_X12_next) B.pre
  have hown : s.vm.findClass RX12 = some mth.cls := findClass_of_methodNamed B.named
  have hlocks := B.notSynchronized
  clear B
  subst hsz
  have iX12 : ∀ w ∈ wsX120, w ∈ v_X12_next := (fun _ h => List.mem_cons_of_mem _ (List.mem_append_right _ (List.mem_append_right _ (List.mem_append_left _ h))))
  have hD := hD0.self (sz := s.heap.size)
  generalize hAe : (va_A [(m, .inr (11, mG m_a m_thrown m_taped m_at m_token m_place m_value m_word m_bad m_badPlace m_fault m_faultPlace m_willing m_will m_forgot m_isDrawn m_x m_begin m_round m_roundCards m_fate m_any m_bothSend m_meanCards m_bestSum m_fitMany m_fitFirst m_fitSecond)), ((m_a 5), .inl (cB, 1600, .inl m_tape_c))] s.heap.size) = A at hD ⊢
  have hA : ∀ q : Nat, s.heap.size ≤ q → A q := fun q h => by rw [← hAe]; exact Or.inr h
  have hS : va_S A s.heap s.heap [] := va_S.rf
  have hl := lv_entry ([.ref m]) (n := 2) (Nat.le_of_ble_eq_true rfl)
  rw [lg_entry_eq]
  generalize (lg_sl ([.ref m]) ++ List.replicate (2 - (lg_sl ([.ref m])).length) Slot.unset).toArray = ls at hl ⊢
  generalize ([.ref m] : List Value).toArray = av at hts ⊢
  generalize hQ : MQ below _ av s _ _ A = QQ
  have hl : lv_has ls 2 [(0, .ref m)] := hl
  have hP : va_P g vwCl [(m, .inr (11, mG m_a m_thrown m_taped m_at m_token m_place m_value m_word m_bad m_badPlace m_fault m_faultPlace m_willing m_will m_forgot m_isDrawn m_x m_begin m_round m_roundCards m_fate m_any m_bothSend m_meanCards m_bestSum m_fitMany m_fitFirst m_fitSecond)), ((m_a 5), .inl (cB, 1600, .inl m_tape_c))] s.heap := hP
  have J0 : ∀ (n0 : Nat) (j0_m_at : Int32) (H : Heap) (locs : List Loc) (ls : Array Slot), (1601 - j0_m_at.toInt).toNat < n0 → (ir j0_m_at.toInt 0 1600) → (j0_m_at.toInt ≤ m_taped.toInt) → (m_at.toInt ≤ j0_m_at.toInt) → va_P g vwCl [(m, .inr (11, mG m_a m_thrown m_taped j0_m_at m_token m_place m_value m_word m_bad m_badPlace m_fault m_faultPlace m_willing m_will m_forgot m_isDrawn m_x m_begin m_round m_roundCards m_fate m_any m_bothSend m_meanCards m_bestSum m_fitMany m_fitFirst m_fitSecond)), ((m_a 5), .inl (cB, 1600, .inl m_tape_c))] H → va_D A [(m, .inr (11, mG m_a m_thrown m_taped j0_m_at m_token m_place m_value m_word m_bad m_badPlace m_fault m_faultPlace m_willing m_will m_forgot m_isDrawn m_x m_begin m_round m_roundCards m_fate m_any m_bothSend m_meanCards m_bestSum m_fitMany m_fitFirst m_fitSecond)), ((m_a 5), .inl (cB, 1600, .inl m_tape_c))] → va_S A s.heap H locs → lv_has ls 2 [(0, .ref m)] → W p l e (headSpec v_X12_next ({ frames := 1, cells := 0, slots := 0, locals := 23 })).room s mth av below meth c H locs 0 0 QQ (F0 mth 0 ls []) := by
    intro n0
    induction n0 with
    | zero => exact fun j0_m_at H locs ls hn => absurd hn (Nat.not_lt_zero _)
    | succ n0 ih0 =>
      intro j0_m_at H locs ls hn0 hj0_m_at hi0_0 hi0_1 hP hD hS hl
      refine lv_aload_n hx hb dX12_next_0 rfl (lv_at hl 0 rfl) ?_
      refine lv_aload_n hx hb dX12_next_1 rfl (lv_at hl 0 rfl) ?_
      refine va_get (D := g) (ci := 11) (v := .int j0_m_at) (C := RX12) (T := TX12) (N := 56) hx hb hts iX12 hown hK hP 0 rfl rfl 7 (by decide) (hts (.fieldLink RX12 131 "CardsAtYuleModel" "at" "I") (List.mem_cons_of_mem _ (List.mem_append_left _ (List.mem_of_getElem? (i := 0) rfl)))) (fun _ h9 => h9) rfl dX12_next_2 ?_
      refine lv_bipush (v := 32) hx hb dX12_next_5 (by decide) ?_
      refine lv_bipush (v := 32) hx hb dX12_next_7 (by decide) ?_
      refine ro_i (va_runV (As := [.int j0_m_at, .int 32, .int 32]) (rest := []) ⟨hx, hb, hml, hown, hts⟩ (q_X12_isByte l g cI cJ cB cZ cL j0_m_at 32 32 m m_a m_thrown m_taped j0_m_at m_token m_place m_value m_word m_bad m_badPlace m_fault m_faultPlace m_willing m_will m_forgot m_isDrawn m_x m_begin m_round m_roundCards m_fate m_any m_bothSend m_meanCards m_bestSum m_fitMany m_fitFirst m_fitSecond m_tape_c H.size hj0_m_at hv_m_taped hj0_m_at hv_m_will hv_m_isDrawn) (cwV 3 hts (goodIn_app (g_4 (List.mem_cons_of_mem _ (List.mem_append_left _ (List.mem_of_getElem? (i := 1) rfl))) (List.mem_cons_of_mem _ (List.mem_append_left _ (List.mem_of_getElem? (i := 2) rfl))) (List.mem_cons_of_mem _ (List.mem_append_left _ (List.mem_of_getElem? (i := 3) rfl))) (List.mem_cons_of_mem _ (List.mem_append_left _ (List.mem_of_getElem? (i := 4) rfl))) (by decide +kernel)) (goodIn_sub (fun _ h => List.mem_cons_of_mem _ (List.mem_append_right _ (List.mem_append_left _ h))) good_v_X12_isByte)) rfl rfl rfl (by decide +kernel) ⟨Nat.le_of_ble_eq_true rfl, Nat.le_of_ble_eq_true rfl⟩) (pv_RO (q := (RX12, TX12, 56)) (ci := 11) (q0 := 0) (wc := [(m, .inr (11, mG m_a m_thrown m_taped j0_m_at m_token m_place m_value m_word m_bad m_badPlace m_fault m_faultPlace m_willing m_will m_forgot m_isDrawn m_x m_begin m_round m_roundCards m_fate m_any m_bothSend m_meanCards m_bestSum m_fitMany m_fitFirst m_fitSecond)), ((m_a 5), .inl (cB, 1600, .inl m_tape_c))]) hK hP [0, 1] rfl rfl rfl) rfl rfl hl.1 rfl (lv_room (Nat.le_of_ble_eq_true rfl)) dX12_next_9 ⟨Nat.le_of_ble_eq_true rfl, Nat.le_of_ble_eq_true rfl⟩) hS hA hP (fun r9 u9 H locs hw9 hP hS => ?_)
      have hw9_0 := hw9
      rcases hw9_0 with ⟨er9, fc9_0, fc9_1⟩ | ⟨er9, fc9_0⟩
      · subst er9
        have fc9_0 : j0_m_at.toInt < m_taped.toInt := fc9_0
        have r9_0a : ir j0_m_at.toInt 0 1599 := ir_lta fc9_0 hj0_m_at hv_m_taped (by decide)
        have r9_0b : ir m_taped.toInt 1 1600 := ir_ltb fc9_0 hj0_m_at hv_m_taped (by decide)
        have fc9_1 : 32 ≤ (m_tape_c j0_m_at.toNatClampNeg).toInt ∧ (m_tape_c j0_m_at.toNatClampNeg).toInt ≤ 32 := fc9_1
        refine lv_if_ne (tgt := 30) hx hb dX12_next_12 (by decide) (fun _ => ?_) (fun c => absurd c (by decide))
        have J30 : ∀  (H : Heap) (locs : List Loc) (ls : Array Slot), (j0_m_at.toInt ≤ m_taped.toInt) → (m_at.toInt ≤ j0_m_at.toInt) → (j0_m_at.toInt < m_taped.toInt) → va_P g vwCl [(m, .inr (11, mG m_a m_thrown m_taped j0_m_at m_token m_place m_value m_word m_bad m_badPlace m_fault m_faultPlace m_willing m_will m_forgot m_isDrawn m_x m_begin m_round m_roundCards m_fate m_any m_bothSend m_meanCards m_bestSum m_fitMany m_fitFirst m_fitSecond)), ((m_a 5), .inl (cB, 1600, .inl m_tape_c))] H → va_D A [(m, .inr (11, mG m_a m_thrown m_taped j0_m_at m_token m_place m_value m_word m_bad m_badPlace m_fault m_faultPlace m_willing m_will m_forgot m_isDrawn m_x m_begin m_round m_roundCards m_fate m_any m_bothSend m_meanCards m_bestSum m_fitMany m_fitFirst m_fitSecond)), ((m_a 5), .inl (cB, 1600, .inl m_tape_c))] → va_S A s.heap H locs → lv_has ls 2 [(0, .ref m)] → W p l e (headSpec v_X12_next ({ frames := 1, cells := 0, slots := 0, locals := 23 })).room s mth av below meth c H locs 0 0 QQ (F0 mth 30 ls []) := by
          intro  H locs ls hi30_0 hi30_1 hi30_2 hP hD hS hl
          refine lv_aload_n hx hb dX12_next_30 rfl (lv_at hl 0 rfl) ?_
          refine lv_dup hx hb dX12_next_31 rfl ?_
          refine va_get (D := g) (ci := 11) (v := .int j0_m_at) (C := RX12) (T := TX12) (N := 56) hx hb hts iX12 hown hK hP 0 rfl rfl 7 (by decide) (hts (.fieldLink RX12 131 "CardsAtYuleModel" "at" "I") (List.mem_cons_of_mem _ (List.mem_append_left _ (List.mem_of_getElem? (i := 0) rfl)))) (fun _ h9 => h9) rfl dX12_next_32 ?_
          refine lv_iconst (v := 1) hx hb dX12_next_35 (by decide) ?_
          refine lv_iadd hx hb dX12_next_36 ?_
          refine lv_topi (fun y36 e36 => ?_)
          have q36 : y36.toInt = j0_m_at.toInt + 1 := by rw [e36]; exact ad_z rfl rfl r9_0a (ir_c 1) (by decide) (by decide)
          have r36 : ir y36.toInt 1 1600 := ad_r q36 r9_0a (ir_c 1) (by decide) (by decide)
          refine va_put (D := g) (ci := 11) (v := .int y36) (ty := .int) (C := RX12) (T := TX12) (N := 56) hx hb hts iX12 tyX12 tyX12_ok nmX12 hown hK hP hD hS 0 rfl rfl 7 (by decide) (hts (.fieldLink RX12 131 "CardsAtYuleModel" "at" "I") (List.mem_cons_of_mem _ (List.mem_append_left _ (List.mem_of_getElem? (i := 0) rfl)))) (fun _ h9 => h9) rfl (by decide +kernel) rfl rfl (Nat.le_of_ble_eq_true rfl) dX12_next_37 (fun H locs hP hD hS => ?_)
          have hP : va_P g vwCl [(m, .inr (11, mG m_a m_thrown m_taped y36 m_token m_place m_value m_word m_bad m_badPlace m_fault m_faultPlace m_willing m_will m_forgot m_isDrawn m_x m_begin m_round m_roundCards m_fate m_any m_bothSend m_meanCards m_bestSum m_fitMany m_fitFirst m_fitSecond)), ((m_a 5), .inl (cB, 1600, .inl m_tape_c))] H := hP
          have hD : va_D A [(m, .inr (11, mG m_a m_thrown m_taped y36 m_token m_place m_value m_word m_bad m_badPlace m_fault m_faultPlace m_willing m_will m_forgot m_isDrawn m_x m_begin m_round m_roundCards m_fate m_any m_bothSend m_meanCards m_bestSum m_fitMany m_fitFirst m_fitSecond)), ((m_a 5), .inl (cB, 1600, .inl m_tape_c))] := hD
          refine lv_goto (tgt := 0) hx hb dX12_next_40 (by decide) ?_
          exact ih0 y36 _ _ _ (by omega) (ir_w r36 (by decide) (by decide)) (by first | omega | decide) (by first | omega | decide) (hP.sub [0, 1] rfl) (hD.sub [0, 1] (by decide) rfl) hS (lv_sub hl [0] rfl)
        exact J30  _ _ _ (by first | omega | decide) (by first | omega | decide) (by first | omega | decide) (hP.sub [0, 1] rfl) (hD.sub [0, 1] (by decide) rfl) hS (lv_sub hl [0] rfl)
      subst er9
      have fc9_0 : ¬ (j0_m_at.toInt < m_taped.toInt ∧ 32 ≤ (m_tape_c j0_m_at.toNatClampNeg).toInt ∧ (m_tape_c j0_m_at.toNatClampNeg).toInt ≤ 32) := fc9_0
      refine lv_if_ne (tgt := 30) hx hb dX12_next_12 (by decide) (fun c => absurd c (by decide)) (fun _ => ?_)
      refine lv_aload_n hx hb dX12_next_15 rfl (lv_at hl 0 rfl) ?_
      refine lv_aload_n hx hb dX12_next_16 rfl (lv_at hl 0 rfl) ?_
      refine va_get (D := g) (ci := 11) (v := .int j0_m_at) (C := RX12) (T := TX12) (N := 56) hx hb hts iX12 hown hK hP 0 rfl rfl 7 (by decide) (hts (.fieldLink RX12 131 "CardsAtYuleModel" "at" "I") (List.mem_cons_of_mem _ (List.mem_append_left _ (List.mem_of_getElem? (i := 0) rfl)))) (fun _ h9 => h9) rfl dX12_next_17 ?_
      refine lv_bipush (v := 10) hx hb dX12_next_20 (by decide) ?_
      refine lv_bipush (v := 10) hx hb dX12_next_22 (by decide) ?_
      refine ro_i (va_runV (As := [.int j0_m_at, .int 10, .int 10]) (rest := []) ⟨hx, hb, hml, hown, hts⟩ (q_X12_isByte l g cI cJ cB cZ cL j0_m_at 10 10 m m_a m_thrown m_taped j0_m_at m_token m_place m_value m_word m_bad m_badPlace m_fault m_faultPlace m_willing m_will m_forgot m_isDrawn m_x m_begin m_round m_roundCards m_fate m_any m_bothSend m_meanCards m_bestSum m_fitMany m_fitFirst m_fitSecond m_tape_c H.size hj0_m_at hv_m_taped hj0_m_at hv_m_will hv_m_isDrawn) (cwV 3 hts (goodIn_app (g_4 (List.mem_cons_of_mem _ (List.mem_append_left _ (List.mem_of_getElem? (i := 1) rfl))) (List.mem_cons_of_mem _ (List.mem_append_left _ (List.mem_of_getElem? (i := 2) rfl))) (List.mem_cons_of_mem _ (List.mem_append_left _ (List.mem_of_getElem? (i := 3) rfl))) (List.mem_cons_of_mem _ (List.mem_append_left _ (List.mem_of_getElem? (i := 4) rfl))) (by decide +kernel)) (goodIn_sub (fun _ h => List.mem_cons_of_mem _ (List.mem_append_right _ (List.mem_append_left _ h))) good_v_X12_isByte)) rfl rfl rfl (by decide +kernel) ⟨Nat.le_of_ble_eq_true rfl, Nat.le_of_ble_eq_true rfl⟩) (pv_RO (q := (RX12, TX12, 56)) (ci := 11) (q0 := 0) (wc := [(m, .inr (11, mG m_a m_thrown m_taped j0_m_at m_token m_place m_value m_word m_bad m_badPlace m_fault m_faultPlace m_willing m_will m_forgot m_isDrawn m_x m_begin m_round m_roundCards m_fate m_any m_bothSend m_meanCards m_bestSum m_fitMany m_fitFirst m_fitSecond)), ((m_a 5), .inl (cB, 1600, .inl m_tape_c))]) hK hP [0, 1] rfl rfl rfl) rfl rfl hl.1 rfl (lv_room (Nat.le_of_ble_eq_true rfl)) dX12_next_24 ⟨Nat.le_of_ble_eq_true rfl, Nat.le_of_ble_eq_true rfl⟩) hS hA hP (fun r24 u24 H locs hw24 hP hS => ?_)
      have hw24_0 := hw24
      rcases hw24_0 with ⟨er24, fc24_0, fc24_1⟩ | ⟨er24, fc24_0⟩
      · subst er24
        have fc24_0 : j0_m_at.toInt < m_taped.toInt := fc24_0
        have r24_0a : ir j0_m_at.toInt 0 1599 := ir_lta fc24_0 hj0_m_at hv_m_taped (by decide)
        have r24_0b : ir m_taped.toInt 1 1600 := ir_ltb fc24_0 hj0_m_at hv_m_taped (by decide)
        have fc24_1 : 10 ≤ (m_tape_c j0_m_at.toNatClampNeg).toInt ∧ (m_tape_c j0_m_at.toNatClampNeg).toInt ≤ 10 := fc24_1
        refine lv_if_eq (tgt := 43) hx hb dX12_next_27 (by decide) (fun c => absurd c (by decide)) (fun _ => ?_)
        have J30 : ∀  (H : Heap) (locs : List Loc) (ls : Array Slot), (j0_m_at.toInt ≤ m_taped.toInt) → (m_at.toInt ≤ j0_m_at.toInt) → (j0_m_at.toInt < m_taped.toInt) → va_P g vwCl [(m, .inr (11, mG m_a m_thrown m_taped j0_m_at m_token m_place m_value m_word m_bad m_badPlace m_fault m_faultPlace m_willing m_will m_forgot m_isDrawn m_x m_begin m_round m_roundCards m_fate m_any m_bothSend m_meanCards m_bestSum m_fitMany m_fitFirst m_fitSecond)), ((m_a 5), .inl (cB, 1600, .inl m_tape_c))] H → va_D A [(m, .inr (11, mG m_a m_thrown m_taped j0_m_at m_token m_place m_value m_word m_bad m_badPlace m_fault m_faultPlace m_willing m_will m_forgot m_isDrawn m_x m_begin m_round m_roundCards m_fate m_any m_bothSend m_meanCards m_bestSum m_fitMany m_fitFirst m_fitSecond)), ((m_a 5), .inl (cB, 1600, .inl m_tape_c))] → va_S A s.heap H locs → lv_has ls 2 [(0, .ref m)] → W p l e (headSpec v_X12_next ({ frames := 1, cells := 0, slots := 0, locals := 23 })).room s mth av below meth c H locs 0 0 QQ (F0 mth 30 ls []) := by
          intro  H locs ls hi30_0 hi30_1 hi30_2 hP hD hS hl
          refine lv_aload_n hx hb dX12_next_30 rfl (lv_at hl 0 rfl) ?_
          refine lv_dup hx hb dX12_next_31 rfl ?_
          refine va_get (D := g) (ci := 11) (v := .int j0_m_at) (C := RX12) (T := TX12) (N := 56) hx hb hts iX12 hown hK hP 0 rfl rfl 7 (by decide) (hts (.fieldLink RX12 131 "CardsAtYuleModel" "at" "I") (List.mem_cons_of_mem _ (List.mem_append_left _ (List.mem_of_getElem? (i := 0) rfl)))) (fun _ h9 => h9) rfl dX12_next_32 ?_
          refine lv_iconst (v := 1) hx hb dX12_next_35 (by decide) ?_
          refine lv_iadd hx hb dX12_next_36 ?_
          refine lv_topi (fun y36 e36 => ?_)
          have q36 : y36.toInt = j0_m_at.toInt + 1 := by rw [e36]; exact ad_z rfl rfl r24_0a (ir_c 1) (by decide) (by decide)
          have r36 : ir y36.toInt 1 1600 := ad_r q36 r24_0a (ir_c 1) (by decide) (by decide)
          refine va_put (D := g) (ci := 11) (v := .int y36) (ty := .int) (C := RX12) (T := TX12) (N := 56) hx hb hts iX12 tyX12 tyX12_ok nmX12 hown hK hP hD hS 0 rfl rfl 7 (by decide) (hts (.fieldLink RX12 131 "CardsAtYuleModel" "at" "I") (List.mem_cons_of_mem _ (List.mem_append_left _ (List.mem_of_getElem? (i := 0) rfl)))) (fun _ h9 => h9) rfl (by decide +kernel) rfl rfl (Nat.le_of_ble_eq_true rfl) dX12_next_37 (fun H locs hP hD hS => ?_)
          have hP : va_P g vwCl [(m, .inr (11, mG m_a m_thrown m_taped y36 m_token m_place m_value m_word m_bad m_badPlace m_fault m_faultPlace m_willing m_will m_forgot m_isDrawn m_x m_begin m_round m_roundCards m_fate m_any m_bothSend m_meanCards m_bestSum m_fitMany m_fitFirst m_fitSecond)), ((m_a 5), .inl (cB, 1600, .inl m_tape_c))] H := hP
          have hD : va_D A [(m, .inr (11, mG m_a m_thrown m_taped y36 m_token m_place m_value m_word m_bad m_badPlace m_fault m_faultPlace m_willing m_will m_forgot m_isDrawn m_x m_begin m_round m_roundCards m_fate m_any m_bothSend m_meanCards m_bestSum m_fitMany m_fitFirst m_fitSecond)), ((m_a 5), .inl (cB, 1600, .inl m_tape_c))] := hD
          refine lv_goto (tgt := 0) hx hb dX12_next_40 (by decide) ?_
          exact ih0 y36 _ _ _ (by omega) (ir_w r36 (by decide) (by decide)) (by first | omega | decide) (by first | omega | decide) (hP.sub [0, 1] rfl) (hD.sub [0, 1] (by decide) rfl) hS (lv_sub hl [0] rfl)
        exact J30  _ _ _ (by first | omega | decide) (by first | omega | decide) (by first | omega | decide) (hP.sub [0, 1] rfl) (hD.sub [0, 1] (by decide) rfl) hS (lv_sub hl [0] rfl)
      subst er24
      have fc24_0 : ¬ (j0_m_at.toInt < m_taped.toInt ∧ 10 ≤ (m_tape_c j0_m_at.toNatClampNeg).toInt ∧ (m_tape_c j0_m_at.toNatClampNeg).toInt ≤ 10) := fc24_0
      refine lv_if_eq (tgt := 43) hx hb dX12_next_27 (by decide) (fun _ => ?_) (fun c => absurd c (by decide))
      refine lv_aload_n hx hb dX12_next_43 rfl (lv_at hl 0 rfl) ?_
      refine lv_aload_n hx hb dX12_next_44 rfl (lv_at hl 0 rfl) ?_
      refine va_get (D := g) (ci := 11) (v := .int j0_m_at) (C := RX12) (T := TX12) (N := 56) hx hb hts iX12 hown hK hP 0 rfl rfl 7 (by decide) (hts (.fieldLink RX12 131 "CardsAtYuleModel" "at" "I") (List.mem_cons_of_mem _ (List.mem_append_left _ (List.mem_of_getElem? (i := 0) rfl)))) (fun _ h9 => h9) rfl dX12_next_45 ?_
      refine va_put (D := g) (ci := 11) (v := .int j0_m_at) (ty := .int) (C := RX12) (T := TX12) (N := 56) hx hb hts iX12 tyX12 tyX12_ok nmX12 hown hK hP hD hS 0 rfl rfl 9 (by decide) (hts (.fieldLink RX12 138 "CardsAtYuleModel" "place" "I") (List.mem_cons_of_mem _ (List.mem_append_left _ (List.mem_of_getElem? (i := 5) rfl)))) (fun _ h9 => h9) rfl (by decide +kernel) rfl rfl (Nat.le_of_ble_eq_true rfl) dX12_next_48 (fun H locs hP hD hS => ?_)
      have hP : va_P g vwCl [(m, .inr (11, mG m_a m_thrown m_taped j0_m_at m_token j0_m_at m_value m_word m_bad m_badPlace m_fault m_faultPlace m_willing m_will m_forgot m_isDrawn m_x m_begin m_round m_roundCards m_fate m_any m_bothSend m_meanCards m_bestSum m_fitMany m_fitFirst m_fitSecond)), ((m_a 5), .inl (cB, 1600, .inl m_tape_c))] H := hP
      have hD : va_D A [(m, .inr (11, mG m_a m_thrown m_taped j0_m_at m_token j0_m_at m_value m_word m_bad m_badPlace m_fault m_faultPlace m_willing m_will m_forgot m_isDrawn m_x m_begin m_round m_roundCards m_fate m_any m_bothSend m_meanCards m_bestSum m_fitMany m_fitFirst m_fitSecond)), ((m_a 5), .inl (cB, 1600, .inl m_tape_c))] := hD
      refine lv_aload_n hx hb dX12_next_51 rfl (lv_at hl 0 rfl) ?_
      refine lv_iconst (v := 0) hx hb dX12_next_52 (by decide) ?_
      refine va_put (D := g) (ci := 11) (v := .int 0) (ty := .int) (C := RX12) (T := TX12) (N := 56) hx hb hts iX12 tyX12 tyX12_ok nmX12 hown hK hP hD hS 0 rfl rfl 10 (by decide) (hts (.fieldLink RX12 141 "CardsAtYuleModel" "value" "I") (List.mem_cons_of_mem _ (List.mem_append_left _ (List.mem_of_getElem? (i := 6) rfl)))) (fun _ h9 => h9) rfl (by decide +kernel) rfl rfl (Nat.le_of_ble_eq_true rfl) dX12_next_53 (fun H locs hP hD hS => ?_)
      have hP : va_P g vwCl [(m, .inr (11, mG m_a m_thrown m_taped j0_m_at m_token j0_m_at 0 m_word m_bad m_badPlace m_fault m_faultPlace m_willing m_will m_forgot m_isDrawn m_x m_begin m_round m_roundCards m_fate m_any m_bothSend m_meanCards m_bestSum m_fitMany m_fitFirst m_fitSecond)), ((m_a 5), .inl (cB, 1600, .inl m_tape_c))] H := hP
      have hD : va_D A [(m, .inr (11, mG m_a m_thrown m_taped j0_m_at m_token j0_m_at 0 m_word m_bad m_badPlace m_fault m_faultPlace m_willing m_will m_forgot m_isDrawn m_x m_begin m_round m_roundCards m_fate m_any m_bothSend m_meanCards m_bestSum m_fitMany m_fitFirst m_fitSecond)), ((m_a 5), .inl (cB, 1600, .inl m_tape_c))] := hD
      refine lv_aload_n hx hb dX12_next_56 rfl (lv_at hl 0 rfl) ?_
      refine lv_lconst (v := 0) hx hb dX12_next_57 (by decide) ?_
      refine va_put (D := g) (ci := 11) (v := .long 0) (ty := .long) (C := RX12) (T := TX12) (N := 56) hx hb hts iX12 tyX12 tyX12_ok nmX12 hown hK hP hD hS 0 rfl rfl 11 (by decide) (hts (.fieldLink RX12 144 "CardsAtYuleModel" "word" "J") (List.mem_cons_of_mem _ (List.mem_append_left _ (List.mem_of_getElem? (i := 7) rfl)))) (fun _ h9 => h9) rfl (by decide +kernel) rfl rfl (Nat.le_of_ble_eq_true rfl) dX12_next_58 (fun H locs hP hD hS => ?_)
      have hP : va_P g vwCl [(m, .inr (11, mG m_a m_thrown m_taped j0_m_at m_token j0_m_at 0 0 m_bad m_badPlace m_fault m_faultPlace m_willing m_will m_forgot m_isDrawn m_x m_begin m_round m_roundCards m_fate m_any m_bothSend m_meanCards m_bestSum m_fitMany m_fitFirst m_fitSecond)), ((m_a 5), .inl (cB, 1600, .inl m_tape_c))] H := hP
      have hD : va_D A [(m, .inr (11, mG m_a m_thrown m_taped j0_m_at m_token j0_m_at 0 0 m_bad m_badPlace m_fault m_faultPlace m_willing m_will m_forgot m_isDrawn m_x m_begin m_round m_roundCards m_fate m_any m_bothSend m_meanCards m_bestSum m_fitMany m_fitFirst m_fitSecond)), ((m_a 5), .inl (cB, 1600, .inl m_tape_c))] := hD
      refine lv_aload_n hx hb dX12_next_61 rfl (lv_at hl 0 rfl) ?_
      refine va_get (D := g) (ci := 11) (v := .int j0_m_at) (C := RX12) (T := TX12) (N := 56) hx hb hts iX12 hown hK hP 0 rfl rfl 7 (by decide) (hts (.fieldLink RX12 131 "CardsAtYuleModel" "at" "I") (List.mem_cons_of_mem _ (List.mem_append_left _ (List.mem_of_getElem? (i := 0) rfl)))) (fun _ h9 => h9) rfl dX12_next_62 ?_
      refine lv_aload_n hx hb dX12_next_65 rfl (lv_at hl 0 rfl) ?_
      refine va_get (D := g) (ci := 11) (v := .int m_taped) (C := RX12) (T := TX12) (N := 56) hx hb hts iX12 hown hK hP 0 rfl rfl 6 (by decide) (hts (.fieldLink RX12 124 "CardsAtYuleModel" "taped" "I") (List.mem_cons_of_mem _ (List.mem_append_left _ (List.mem_of_getElem? (i := 8) rfl)))) (fun _ h9 => h9) rfl dX12_next_66 ?_
      refine lv_icmp_ne (tgt := 80) hx hb dX12_next_69 (by decide) (fun c69 => ?_) (fun c69 => ?_)
      rotate_left 1
      · have f69 := (show j0_m_at.toInt = m_taped.toInt from z_eq rfl rfl c69)
        refine lv_aload_n hx hb dX12_next_72 rfl (lv_at hl 0 rfl) ?_
        refine lv_iconst (v := 0) hx hb dX12_next_73 (by decide) ?_
        refine va_put (D := g) (ci := 11) (v := .int 0) (ty := .int) (C := RX12) (T := TX12) (N := 56) hx hb hts iX12 tyX12 tyX12_ok nmX12 hown hK hP hD hS 0 rfl rfl 8 (by decide) (hts (.fieldLink RX12 148 "CardsAtYuleModel" "token" "I") (List.mem_cons_of_mem _ (List.mem_append_left _ (List.mem_of_getElem? (i := 9) rfl)))) (fun _ h9 => h9) rfl (by decide +kernel) rfl rfl (Nat.le_of_ble_eq_true rfl) dX12_next_74 (fun H locs hP hD hS => ?_)
        have hP : va_P g vwCl [(m, .inr (11, mG m_a m_thrown m_taped j0_m_at 0 j0_m_at 0 0 m_bad m_badPlace m_fault m_faultPlace m_willing m_will m_forgot m_isDrawn m_x m_begin m_round m_roundCards m_fate m_any m_bothSend m_meanCards m_bestSum m_fitMany m_fitFirst m_fitSecond)), ((m_a 5), .inl (cB, 1600, .inl m_tape_c))] H := hP
        have hD : va_D A [(m, .inr (11, mG m_a m_thrown m_taped j0_m_at 0 j0_m_at 0 0 m_bad m_badPlace m_fault m_faultPlace m_willing m_will m_forgot m_isDrawn m_x m_begin m_round m_roundCards m_fate m_any m_bothSend m_meanCards m_bestSum m_fitMany m_fitFirst m_fitSecond)), ((m_a 5), .inl (cB, 1600, .inl m_tape_c))] := hD
        refine lv_goto (tgt := 307) hx hb dX12_next_77 (by decide) ?_
        subst hQ
        have hP9 := hP.sub (ws' := [(m, .inr (11, mG m_a m_thrown m_taped j0_m_at 0 j0_m_at 0 0 m_bad m_badPlace m_fault m_faultPlace m_willing m_will m_forgot m_isDrawn m_x m_begin m_round m_roundCards m_fate m_any m_bothSend m_meanCards m_bestSum m_fitMany m_fitFirst m_fitSecond)), ((m_a 5), .inl (cB, 1600, .inl m_tape_c))]) [0, 1] rfl
        have hD9 := hD.sub (ws' := [(m, .inr (11, mG m_a m_thrown m_taped j0_m_at 0 j0_m_at 0 0 m_bad m_badPlace m_fault m_faultPlace m_willing m_will m_forgot m_isDrawn m_x m_begin m_round m_roundCards m_fate m_any m_bothSend m_meanCards m_bestSum m_fitMany m_fitFirst m_fitSecond)), ((m_a 5), .inl (cB, 1600, .inl m_tape_c))]) [0, 1] (by decide) rfl
        exact W.vret hx hb hr (fun t ht hW => ⟨⟨(j0_m_at, 0, j0_m_at, 0, 0), rfl, ⟨hj0_m_at, (show ir (0 : Int32).toInt 0 4 by decide), hj0_m_at, (by have kc0 : (0 : Int32).toInt = 0 := rfl; omega)⟩, ⟨by rw [ht]; exact hP9, va_K.moved hW.alike hK, hD9⟩⟩, hS.F ht⟩) hS.2.2 dX12_next_307
      have f69 := (show j0_m_at.toInt ≠ m_taped.toInt from z_ne rfl rfl c69)
      refine lv_aload_n hx hb dX12_next_80 rfl (lv_at hl 0 rfl) ?_
      refine lv_aload_n hx hb dX12_next_81 rfl (lv_at hl 0 rfl) ?_
      refine va_get (D := g) (ci := 11) (v := .int j0_m_at) (C := RX12) (T := TX12) (N := 56) hx hb hts iX12 hown hK hP 0 rfl rfl 7 (by decide) (hts (.fieldLink RX12 131 "CardsAtYuleModel" "at" "I") (List.mem_cons_of_mem _ (List.mem_append_left _ (List.mem_of_getElem? (i := 0) rfl)))) (fun _ h9 => h9) rfl dX12_next_82 ?_
      refine lv_bipush (v := 97) hx hb dX12_next_85 (by decide) ?_
      refine lv_bipush (v := 122) hx hb dX12_next_87 (by decide) ?_
      refine ro_i (va_runV (As := [.int j0_m_at, .int 97, .int 122]) (rest := []) ⟨hx, hb, hml, hown, hts⟩ (q_X12_isByte l g cI cJ cB cZ cL j0_m_at 97 122 m m_a m_thrown m_taped j0_m_at m_token j0_m_at 0 0 m_bad m_badPlace m_fault m_faultPlace m_willing m_will m_forgot m_isDrawn m_x m_begin m_round m_roundCards m_fate m_any m_bothSend m_meanCards m_bestSum m_fitMany m_fitFirst m_fitSecond m_tape_c H.size hj0_m_at hv_m_taped hj0_m_at hv_m_will hv_m_isDrawn) (cwV 3 hts (goodIn_app (g_4 (List.mem_cons_of_mem _ (List.mem_append_left _ (List.mem_of_getElem? (i := 1) rfl))) (List.mem_cons_of_mem _ (List.mem_append_left _ (List.mem_of_getElem? (i := 2) rfl))) (List.mem_cons_of_mem _ (List.mem_append_left _ (List.mem_of_getElem? (i := 3) rfl))) (List.mem_cons_of_mem _ (List.mem_append_left _ (List.mem_of_getElem? (i := 4) rfl))) (by decide +kernel)) (goodIn_sub (fun _ h => List.mem_cons_of_mem _ (List.mem_append_right _ (List.mem_append_left _ h))) good_v_X12_isByte)) rfl rfl rfl (by decide +kernel) ⟨Nat.le_of_ble_eq_true rfl, Nat.le_of_ble_eq_true rfl⟩) (pv_RO (q := (RX12, TX12, 56)) (ci := 11) (q0 := 0) (wc := [(m, .inr (11, mG m_a m_thrown m_taped j0_m_at m_token j0_m_at 0 0 m_bad m_badPlace m_fault m_faultPlace m_willing m_will m_forgot m_isDrawn m_x m_begin m_round m_roundCards m_fate m_any m_bothSend m_meanCards m_bestSum m_fitMany m_fitFirst m_fitSecond)), ((m_a 5), .inl (cB, 1600, .inl m_tape_c))]) hK hP [0, 1] rfl rfl rfl) rfl rfl hl.1 rfl (lv_room (Nat.le_of_ble_eq_true rfl)) dX12_next_89 ⟨Nat.le_of_ble_eq_true rfl, Nat.le_of_ble_eq_true rfl⟩) hS hA hP (fun r89 u89 H locs hw89 hP hS => ?_)
      have hw89_0 := hw89
      rcases hw89_0 with ⟨er89, fc89_0, fc89_1⟩ | ⟨er89, fc89_0⟩
      · subst er89
        have fc89_0 : j0_m_at.toInt < m_taped.toInt := fc89_0
        have r89_0a : ir j0_m_at.toInt 0 1599 := ir_lta fc89_0 hj0_m_at hv_m_taped (by decide)
        have r89_0b : ir m_taped.toInt 1 1600 := ir_ltb fc89_0 hj0_m_at hv_m_taped (by decide)
        have fc89_1 : 97 ≤ (m_tape_c j0_m_at.toNatClampNeg).toInt ∧ (m_tape_c j0_m_at.toNatClampNeg).toInt ≤ 122 := fc89_1
        refine lv_if_eq (tgt := 188) hx hb dX12_next_92 (by decide) (fun c => absurd c (by decide)) (fun _ => ?_)
        refine lv_aload_n hx hb dX12_next_95 rfl (lv_at hl 0 rfl) ?_
        refine lv_iconst (v := 1) hx hb dX12_next_96 (by decide) ?_
        refine va_put (D := g) (ci := 11) (v := .int 1) (ty := .int) (C := RX12) (T := TX12) (N := 56) hx hb hts iX12 tyX12 tyX12_ok nmX12 hown hK hP hD hS 0 rfl rfl 8 (by decide) (hts (.fieldLink RX12 148 "CardsAtYuleModel" "token" "I") (List.mem_cons_of_mem _ (List.mem_append_left _ (List.mem_of_getElem? (i := 9) rfl)))) (fun _ h9 => h9) rfl (by decide +kernel) rfl rfl (Nat.le_of_ble_eq_true rfl) dX12_next_97 (fun H locs hP hD hS => ?_)
        have hP : va_P g vwCl [(m, .inr (11, mG m_a m_thrown m_taped j0_m_at 1 j0_m_at 0 0 m_bad m_badPlace m_fault m_faultPlace m_willing m_will m_forgot m_isDrawn m_x m_begin m_round m_roundCards m_fate m_any m_bothSend m_meanCards m_bestSum m_fitMany m_fitFirst m_fitSecond)), ((m_a 5), .inl (cB, 1600, .inl m_tape_c))] H := hP
        have hD : va_D A [(m, .inr (11, mG m_a m_thrown m_taped j0_m_at 1 j0_m_at 0 0 m_bad m_badPlace m_fault m_faultPlace m_willing m_will m_forgot m_isDrawn m_x m_begin m_round m_roundCards m_fate m_any m_bothSend m_meanCards m_bestSum m_fitMany m_fitFirst m_fitSecond)), ((m_a 5), .inl (cB, 1600, .inl m_tape_c))] := hD
        refine lv_iconst (v := 0) hx hb dX12_next_100 (by decide) ?_
        refine lv_istore_n (lv' := [(1, .int 0), (0, .ref m)]) hx hb dX12_next_101 rfl hl (by decide) rfl (fun ls hl => ?_)
        have J102 : ∀ (n102 : Nat) (j102_l1 : Int32) (j102_m_at : Int32) (j102_m_word : Int64) (H : Heap) (locs : List Loc) (ls : Array Slot), (1601 - j102_m_at.toInt).toNat < n102 → (ir j102_m_at.toInt 0 1600) → (j102_m_at.toInt ≤ m_taped.toInt) → (m_at.toInt ≤ j0_m_at.toInt) → (j0_m_at.toInt ≤ j102_m_at.toInt) → (j0_m_at.toInt < j102_m_at.toInt ∨ (j102_m_at.toInt < m_taped.toInt ∧ 97 ≤ (m_tape_c j102_m_at.toNatClampNeg).toInt ∧ (m_tape_c j102_m_at.toNatClampNeg).toInt ≤ 122)) → va_P g vwCl [(m, .inr (11, mG m_a m_thrown m_taped j102_m_at 1 j0_m_at 0 j102_m_word m_bad m_badPlace m_fault m_faultPlace m_willing m_will m_forgot m_isDrawn m_x m_begin m_round m_roundCards m_fate m_any m_bothSend m_meanCards m_bestSum m_fitMany m_fitFirst m_fitSecond)), ((m_a 5), .inl (cB, 1600, .inl m_tape_c))] H → va_D A [(m, .inr (11, mG m_a m_thrown m_taped j102_m_at 1 j0_m_at 0 j102_m_word m_bad m_badPlace m_fault m_faultPlace m_willing m_will m_forgot m_isDrawn m_x m_begin m_round m_roundCards m_fate m_any m_bothSend m_meanCards m_bestSum m_fitMany m_fitFirst m_fitSecond)), ((m_a 5), .inl (cB, 1600, .inl m_tape_c))] → va_S A s.heap H locs → lv_has ls 2 [(0, .ref m), (1, .int j102_l1)] → W p l e (headSpec v_X12_next ({ frames := 1, cells := 0, slots := 0, locals := 23 })).room s mth av below meth c H locs 0 0 QQ (F0 mth 102 ls []) := by
          intro n102
          induction n102 with
          | zero => exact fun j102_l1 j102_m_at j102_m_word H locs ls hn => absurd hn (Nat.not_lt_zero _)
          | succ n102 ih102 =>
            intro j102_l1 j102_m_at j102_m_word H locs ls hn102 hj102_m_at hi102_0 hi102_1 hi102_2 hi102_3 hP hD hS hl
            refine lv_aload_n hx hb dX12_next_102 rfl (lv_at hl 0 rfl) ?_
            refine lv_aload_n hx hb dX12_next_103 rfl (lv_at hl 0 rfl) ?_
            refine va_get (D := g) (ci := 11) (v := .int j102_m_at) (C := RX12) (T := TX12) (N := 56) hx hb hts iX12 hown hK hP 0 rfl rfl 7 (by decide) (hts (.fieldLink RX12 131 "CardsAtYuleModel" "at" "I") (List.mem_cons_of_mem _ (List.mem_append_left _ (List.mem_of_getElem? (i := 0) rfl)))) (fun _ h9 => h9) rfl dX12_next_104 ?_
            refine lv_bipush (v := 97) hx hb dX12_next_107 (by decide) ?_
            refine lv_bipush (v := 122) hx hb dX12_next_109 (by decide) ?_
            refine ro_i (va_runV (As := [.int j102_m_at, .int 97, .int 122]) (rest := []) ⟨hx, hb, hml, hown, hts⟩ (q_X12_isByte l g cI cJ cB cZ cL j102_m_at 97 122 m m_a m_thrown m_taped j102_m_at 1 j0_m_at 0 j102_m_word m_bad m_badPlace m_fault m_faultPlace m_willing m_will m_forgot m_isDrawn m_x m_begin m_round m_roundCards m_fate m_any m_bothSend m_meanCards m_bestSum m_fitMany m_fitFirst m_fitSecond m_tape_c H.size hj102_m_at (ir_w r89_0b (by decide) (by decide)) hj102_m_at hv_m_will hv_m_isDrawn) (cwV 3 hts (goodIn_app (g_4 (List.mem_cons_of_mem _ (List.mem_append_left _ (List.mem_of_getElem? (i := 1) rfl))) (List.mem_cons_of_mem _ (List.mem_append_left _ (List.mem_of_getElem? (i := 2) rfl))) (List.mem_cons_of_mem _ (List.mem_append_left _ (List.mem_of_getElem? (i := 3) rfl))) (List.mem_cons_of_mem _ (List.mem_append_left _ (List.mem_of_getElem? (i := 4) rfl))) (by decide +kernel)) (goodIn_sub (fun _ h => List.mem_cons_of_mem _ (List.mem_append_right _ (List.mem_append_left _ h))) good_v_X12_isByte)) rfl rfl rfl (by decide +kernel) ⟨Nat.le_of_ble_eq_true rfl, Nat.le_of_ble_eq_true rfl⟩) (pv_RO (q := (RX12, TX12, 56)) (ci := 11) (q0 := 0) (wc := [(m, .inr (11, mG m_a m_thrown m_taped j102_m_at 1 j0_m_at 0 j102_m_word m_bad m_badPlace m_fault m_faultPlace m_willing m_will m_forgot m_isDrawn m_x m_begin m_round m_roundCards m_fate m_any m_bothSend m_meanCards m_bestSum m_fitMany m_fitFirst m_fitSecond)), ((m_a 5), .inl (cB, 1600, .inl m_tape_c))]) hK hP [0, 1] rfl rfl rfl) rfl rfl hl.1 rfl (lv_room (Nat.le_of_ble_eq_true rfl)) dX12_next_111 ⟨Nat.le_of_ble_eq_true rfl, Nat.le_of_ble_eq_true rfl⟩) hS hA hP (fun r111 u111 H locs hw111 hP hS => ?_)
            have hw111_0 := hw111
            rcases hw111_0 with ⟨er111, fc111_0, fc111_1⟩ | ⟨er111, fc111_0⟩
            rotate_left 1
            · subst er111
              have fc111_0 : ¬ (j102_m_at.toInt < m_taped.toInt ∧ 97 ≤ (m_tape_c j102_m_at.toNatClampNeg).toInt ∧ (m_tape_c j102_m_at.toNatClampNeg).toInt ≤ 122) := fc111_0
              refine lv_if_eq (tgt := 185) hx hb dX12_next_114 (by decide) (fun _ => ?_) (fun c => absurd c (by decide))
              refine lv_goto (tgt := 307) hx hb dX12_next_185 (by decide) ?_
              subst hQ
              have hP9 := hP.sub (ws' := [(m, .inr (11, mG m_a m_thrown m_taped j102_m_at 1 j0_m_at 0 j102_m_word m_bad m_badPlace m_fault m_faultPlace m_willing m_will m_forgot m_isDrawn m_x m_begin m_round m_roundCards m_fate m_any m_bothSend m_meanCards m_bestSum m_fitMany m_fitFirst m_fitSecond)), ((m_a 5), .inl (cB, 1600, .inl m_tape_c))]) [0, 1] rfl
              have hD9 := hD.sub (ws' := [(m, .inr (11, mG m_a m_thrown m_taped j102_m_at 1 j0_m_at 0 j102_m_word m_bad m_badPlace m_fault m_faultPlace m_willing m_will m_forgot m_isDrawn m_x m_begin m_round m_roundCards m_fate m_any m_bothSend m_meanCards m_bestSum m_fitMany m_fitFirst m_fitSecond)), ((m_a 5), .inl (cB, 1600, .inl m_tape_c))]) [0, 1] (by decide) rfl
              exact W.vret hx hb hr (fun t ht hW => ⟨⟨(j102_m_at, 1, j0_m_at, 0, j102_m_word), rfl, ⟨hj102_m_at, (show ir (1 : Int32).toInt 0 4 by decide), (ir_w r89_0a (by decide) (by decide)), (by have kc0 : (0 : Int32).toInt = 0 := rfl; have kc1 : (1 : Int32).toInt = 1 := rfl; omega)⟩, ⟨by rw [ht]; exact hP9, va_K.moved hW.alike hK, hD9⟩⟩, hS.F ht⟩) hS.2.2 dX12_next_307
            subst er111
            have fc111_0 : j102_m_at.toInt < m_taped.toInt := fc111_0
            have r111_0a : ir j102_m_at.toInt 0 1599 := ir_lta fc111_0 hj102_m_at r89_0b (by decide)
            have fc111_1 : 97 ≤ (m_tape_c j102_m_at.toNatClampNeg).toInt ∧ (m_tape_c j102_m_at.toNatClampNeg).toInt ≤ 122 := fc111_1
            refine lv_if_eq (tgt := 185) hx hb dX12_next_114 (by decide) (fun c => absurd c (by decide)) (fun _ => ?_)
            refine lv_aload_n hx hb dX12_next_117 rfl (lv_at hl 0 rfl) ?_
            refine lv_iload_n hx hb dX12_next_118 rfl (lv_at hl 1 rfl) ?_
            refine lv_bipush (v := 11) hx hb dX12_next_119 (by decide) ?_
            have J153 : ∀ (j153_s0 : Int64) (H : Heap) (locs : List Loc) (ls : Array Slot), (j102_m_at.toInt ≤ m_taped.toInt) → (m_at.toInt ≤ j0_m_at.toInt) → (j0_m_at.toInt ≤ j102_m_at.toInt) → (j102_m_at.toInt < m_taped.toInt) → va_P g vwCl [(m, .inr (11, mG m_a m_thrown m_taped j102_m_at 1 j0_m_at 0 j102_m_word m_bad m_badPlace m_fault m_faultPlace m_willing m_will m_forgot m_isDrawn m_x m_begin m_round m_roundCards m_fate m_any m_bothSend m_meanCards m_bestSum m_fitMany m_fitFirst m_fitSecond)), ((m_a 5), .inl (cB, 1600, .inl m_tape_c))] H → va_D A [(m, .inr (11, mG m_a m_thrown m_taped j102_m_at 1 j0_m_at 0 j102_m_word m_bad m_badPlace m_fault m_faultPlace m_willing m_will m_forgot m_isDrawn m_x m_begin m_round m_roundCards m_fate m_any m_bothSend m_meanCards m_bestSum m_fitMany m_fitFirst m_fitSecond)), ((m_a 5), .inl (cB, 1600, .inl m_tape_c))] → va_S A s.heap H locs → lv_has ls 2 [(0, .ref m), (1, .int j102_l1)] → W p l e (headSpec v_X12_next ({ frames := 1, cells := 0, slots := 0, locals := 23 })).room s mth av below meth c H locs 0 0 QQ (F0 mth 153 ls [.long j153_s0, .ref m]) := by
              intro j153_s0 H locs ls hi153_0 hi153_1 hi153_2 hi153_3 hP hD hS hl
              refine va_put (D := g) (ci := 11) (v := .long j153_s0) (ty := .long) (C := RX12) (T := TX12) (N := 56) hx hb hts iX12 tyX12 tyX12_ok nmX12 hown hK hP hD hS 0 rfl rfl 11 (by decide) (hts (.fieldLink RX12 144 "CardsAtYuleModel" "word" "J") (List.mem_cons_of_mem _ (List.mem_append_left _ (List.mem_of_getElem? (i := 7) rfl)))) (fun _ h9 => h9) rfl (by decide +kernel) rfl rfl (Nat.le_of_ble_eq_true rfl) dX12_next_153 (fun H locs hP hD hS => ?_)
              have hP : va_P g vwCl [(m, .inr (11, mG m_a m_thrown m_taped j102_m_at 1 j0_m_at 0 j153_s0 m_bad m_badPlace m_fault m_faultPlace m_willing m_will m_forgot m_isDrawn m_x m_begin m_round m_roundCards m_fate m_any m_bothSend m_meanCards m_bestSum m_fitMany m_fitFirst m_fitSecond)), ((m_a 5), .inl (cB, 1600, .inl m_tape_c))] H := hP
              have hD : va_D A [(m, .inr (11, mG m_a m_thrown m_taped j102_m_at 1 j0_m_at 0 j153_s0 m_bad m_badPlace m_fault m_faultPlace m_willing m_will m_forgot m_isDrawn m_x m_begin m_round m_roundCards m_fate m_any m_bothSend m_meanCards m_bestSum m_fitMany m_fitFirst m_fitSecond)), ((m_a 5), .inl (cB, 1600, .inl m_tape_c))] := hD
              refine lv_iload_n hx hb dX12_next_156 rfl (lv_at hl 1 rfl) ?_
              refine lv_bipush (v := 11) hx hb dX12_next_157 (by decide) ?_
              have J169 : ∀ (j169_m_word : Int64) (H : Heap) (locs : List Loc) (ls : Array Slot), (j102_m_at.toInt ≤ m_taped.toInt) → (m_at.toInt ≤ j0_m_at.toInt) → (j0_m_at.toInt ≤ j102_m_at.toInt) → (j102_m_at.toInt < m_taped.toInt) → va_P g vwCl [(m, .inr (11, mG m_a m_thrown m_taped j102_m_at 1 j0_m_at 0 j169_m_word m_bad m_badPlace m_fault m_faultPlace m_willing m_will m_forgot m_isDrawn m_x m_begin m_round m_roundCards m_fate m_any m_bothSend m_meanCards m_bestSum m_fitMany m_fitFirst m_fitSecond)), ((m_a 5), .inl (cB, 1600, .inl m_tape_c))] H → va_D A [(m, .inr (11, mG m_a m_thrown m_taped j102_m_at 1 j0_m_at 0 j169_m_word m_bad m_badPlace m_fault m_faultPlace m_willing m_will m_forgot m_isDrawn m_x m_begin m_round m_roundCards m_fate m_any m_bothSend m_meanCards m_bestSum m_fitMany m_fitFirst m_fitSecond)), ((m_a 5), .inl (cB, 1600, .inl m_tape_c))] → va_S A s.heap H locs → lv_has ls 2 [(0, .ref m), (1, .int j102_l1)] → W p l e (headSpec v_X12_next ({ frames := 1, cells := 0, slots := 0, locals := 23 })).room s mth av below meth c H locs 0 0 QQ (F0 mth 169 ls []) := by
                intro j169_m_word H locs ls hi169_0 hi169_1 hi169_2 hi169_3 hP hD hS hl
                refine lv_aload_n hx hb dX12_next_169 rfl (lv_at hl 0 rfl) ?_
                refine lv_dup hx hb dX12_next_170 rfl ?_
                refine va_get (D := g) (ci := 11) (v := .int j102_m_at) (C := RX12) (T := TX12) (N := 56) hx hb hts iX12 hown hK hP 0 rfl rfl 7 (by decide) (hts (.fieldLink RX12 131 "CardsAtYuleModel" "at" "I") (List.mem_cons_of_mem _ (List.mem_append_left _ (List.mem_of_getElem? (i := 0) rfl)))) (fun _ h9 => h9) rfl dX12_next_171 ?_
                refine lv_iconst (v := 1) hx hb dX12_next_174 (by decide) ?_
                refine lv_iadd hx hb dX12_next_175 ?_
                refine lv_topi (fun y175 e175 => ?_)
                have q175 : y175.toInt = j102_m_at.toInt + 1 := by rw [e175]; exact ad_z rfl rfl r111_0a (ir_c 1) (by decide) (by decide)
                have r175 : ir y175.toInt 1 1600 := ad_r q175 r111_0a (ir_c 1) (by decide) (by decide)
                refine va_put (D := g) (ci := 11) (v := .int y175) (ty := .int) (C := RX12) (T := TX12) (N := 56) hx hb hts iX12 tyX12 tyX12_ok nmX12 hown hK hP hD hS 0 rfl rfl 7 (by decide) (hts (.fieldLink RX12 131 "CardsAtYuleModel" "at" "I") (List.mem_cons_of_mem _ (List.mem_append_left _ (List.mem_of_getElem? (i := 0) rfl)))) (fun _ h9 => h9) rfl (by decide +kernel) rfl rfl (Nat.le_of_ble_eq_true rfl) dX12_next_176 (fun H locs hP hD hS => ?_)
                have hP : va_P g vwCl [(m, .inr (11, mG m_a m_thrown m_taped y175 1 j0_m_at 0 j169_m_word m_bad m_badPlace m_fault m_faultPlace m_willing m_will m_forgot m_isDrawn m_x m_begin m_round m_roundCards m_fate m_any m_bothSend m_meanCards m_bestSum m_fitMany m_fitFirst m_fitSecond)), ((m_a 5), .inl (cB, 1600, .inl m_tape_c))] H := hP
                have hD : va_D A [(m, .inr (11, mG m_a m_thrown m_taped y175 1 j0_m_at 0 j169_m_word m_bad m_badPlace m_fault m_faultPlace m_willing m_will m_forgot m_isDrawn m_x m_begin m_round m_roundCards m_fate m_any m_bothSend m_meanCards m_bestSum m_fitMany m_fitFirst m_fitSecond)), ((m_a 5), .inl (cB, 1600, .inl m_tape_c))] := hD
                obtain ⟨y179, e179⟩ : ∃ y : Int32, y = j102_l1 + 1 := ⟨_, rfl⟩
                refine lv_iinc (v := y179) (lv' := [(1, .int y179), (0, .ref m)]) hx hb dX12_next_179 hl (k := 1) rfl e179.symm (by decide) rfl (fun ls hl => ?_)
                refine lv_goto (tgt := 102) hx hb dX12_next_182 (by decide) ?_
                exact ih102 y179 y175 j169_m_word _ _ _ (by omega) (ir_w r175 (by decide) (by decide)) (by first | omega | decide) (by first | omega | decide) (by first | omega | decide) (by first | omega | decide) (hP.sub [0, 1] rfl) (hD.sub [0, 1] (by decide) rfl) hS (lv_sub hl [1, 0] rfl)
              refine lv_icmp_le (tgt := 169) hx hb dX12_next_159 (by decide) (fun c159 => ?_) (fun c159 => ?_)
              · have f159 := (show j102_l1.toInt ≤ 11 from z_le rfl rfl c159)
                have r159a : ir j102_l1.toInt (-2147483648) 11 := ir_lea f159 (rg_all j102_l1) (ir_c 11) (by decide)
                exact J169 j153_s0 _ _ _ (by first | omega | decide) (by first | omega | decide) (by first | omega | decide) (by first | omega | decide) (hP.sub [0, 1] rfl) (hD.sub [0, 1] (by decide) rfl) hS (lv_sub hl [0, 1] rfl)
              have f159 := (show 11 < j102_l1.toInt from z_nle rfl rfl c159)
              have r159a : ir j102_l1.toInt 12 2147483647 := ir_ltb f159 (ir_c 11) (rg_all j102_l1) (by decide)
              refine lv_aload_n hx hb dX12_next_162 rfl (lv_at hl 0 rfl) ?_
              refine lv_ldc2 (v := (-1)) hx hb hown (hts (.constantLong RX12 151 (-1)) (List.mem_cons_of_mem _ (List.mem_append_left _ (List.mem_of_getElem? (i := 10) rfl)))) dX12_next_163 ?_
              refine va_put (D := g) (ci := 11) (v := .long (-1)) (ty := .long) (C := RX12) (T := TX12) (N := 56) hx hb hts iX12 tyX12 tyX12_ok nmX12 hown hK hP hD hS 0 rfl rfl 11 (by decide) (hts (.fieldLink RX12 144 "CardsAtYuleModel" "word" "J") (List.mem_cons_of_mem _ (List.mem_append_left _ (List.mem_of_getElem? (i := 7) rfl)))) (fun _ h9 => h9) rfl (by decide +kernel) rfl rfl (Nat.le_of_ble_eq_true rfl) dX12_next_166 (fun H locs hP hD hS => ?_)
              have hP : va_P g vwCl [(m, .inr (11, mG m_a m_thrown m_taped j102_m_at 1 j0_m_at 0 (-1) m_bad m_badPlace m_fault m_faultPlace m_willing m_will m_forgot m_isDrawn m_x m_begin m_round m_roundCards m_fate m_any m_bothSend m_meanCards m_bestSum m_fitMany m_fitFirst m_fitSecond)), ((m_a 5), .inl (cB, 1600, .inl m_tape_c))] H := hP
              have hD : va_D A [(m, .inr (11, mG m_a m_thrown m_taped j102_m_at 1 j0_m_at 0 (-1) m_bad m_badPlace m_fault m_faultPlace m_willing m_will m_forgot m_isDrawn m_x m_begin m_round m_roundCards m_fate m_any m_bothSend m_meanCards m_bestSum m_fitMany m_fitFirst m_fitSecond)), ((m_a 5), .inl (cB, 1600, .inl m_tape_c))] := hD
              exact J169 (-1) _ _ _ (by first | omega | decide) (by first | omega | decide) (by first | omega | decide) (by first | omega | decide) (hP.sub [0, 1] rfl) (hD.sub [0, 1] (by decide) rfl) hS (lv_sub hl [0, 1] rfl)
            refine lv_icmp_le (tgt := 130) hx hb dX12_next_121 (by decide) (fun c121 => ?_) (fun c121 => ?_)
            rotate_left 1
            · have f121 := (show 11 < j102_l1.toInt from z_nle rfl rfl c121)
              have r121a : ir j102_l1.toInt 12 2147483647 := ir_ltb f121 (ir_c 11) (rg_all j102_l1) (by decide)
              refine lv_ldc2 (v := (-1)) hx hb hown (hts (.constantLong RX12 151 (-1)) (List.mem_cons_of_mem _ (List.mem_append_left _ (List.mem_of_getElem? (i := 10) rfl)))) dX12_next_124 ?_
              refine lv_goto (tgt := 153) hx hb dX12_next_127 (by decide) ?_
              exact J153 (-1) _ _ _ (by first | omega | decide) (by first | omega | decide) (by first | omega | decide) (by first | omega | decide) (hP.sub [0, 1] rfl) (hD.sub [0, 1] (by decide) rfl) hS (lv_sub hl [0, 1] rfl)
            have f121 := (show j102_l1.toInt ≤ 11 from z_le rfl rfl c121)
            have r121a : ir j102_l1.toInt (-2147483648) 11 := ir_lea f121 (rg_all j102_l1) (ir_c 11) (by decide)
            refine lv_ldc2 (v := 27) hx hb hown (hts (.constantLong RX12 153 (27)) (List.mem_cons_of_mem _ (List.mem_append_left _ (List.mem_of_getElem? (i := 11) rfl)))) dX12_next_130 ?_
            refine lv_aload_n hx hb dX12_next_133 rfl (lv_at hl 0 rfl) ?_
            refine va_get (D := g) (ci := 11) (v := .long j102_m_word) (C := RX12) (T := TX12) (N := 56) hx hb hts iX12 hown hK hP 0 rfl rfl 11 (by decide) (hts (.fieldLink RX12 144 "CardsAtYuleModel" "word" "J") (List.mem_cons_of_mem _ (List.mem_append_left _ (List.mem_of_getElem? (i := 7) rfl)))) (fun _ h9 => h9) rfl dX12_next_134 ?_
            refine lv_lmul hx hb dX12_next_137 ?_
            refine lv_topl (fun y137 e137 => ?_)
            refine lv_aload_n hx hb dX12_next_138 rfl (lv_at hl 0 rfl) ?_
            refine va_get (D := g) (ci := 11) (v := .ref (m_a 5)) (C := RX12) (T := TX12) (N := 56) hx hb hts iX12 hown hK hP 0 rfl rfl 5 (by decide) (hts (.fieldLink RX12 23 "CardsAtYuleModel" "tape" "[B") (List.mem_cons_of_mem _ (List.mem_append_left _ (List.mem_of_getElem? (i := 12) rfl)))) (fun _ h9 => h9) rfl dX12_next_139 ?_
            refine lv_aload_n hx hb dX12_next_142 rfl (lv_at hl 0 rfl) ?_
            refine va_get (D := g) (ci := 11) (v := .int j102_m_at) (C := RX12) (T := TX12) (N := 56) hx hb hts iX12 hown hK hP 0 rfl rfl 7 (by decide) (hts (.fieldLink RX12 131 "CardsAtYuleModel" "at" "I") (List.mem_cons_of_mem _ (List.mem_append_left _ (List.mem_of_getElem? (i := 0) rfl)))) (fun _ h9 => h9) rfl dX12_next_143 ?_
            refine va_bald (D := g) hx hb hK hP 1 2 rfl rfl (vi_rg rfl r111_0a (by decide) (by decide)) dX12_next_146 ?_
            refine lv_topi (fun y146 e146 => ?_)
            refine lv_i2l (v := y146.toInt64) hx hb dX12_next_147 rfl ?_
            refine lv_ladd hx hb dX12_next_148 ?_
            refine lv_topl (fun y148 e148 => ?_)
            refine lv_ldc2 (v := 96) hx hb hown (hts (.constantLong RX12 155 (96)) (List.mem_cons_of_mem _ (List.mem_append_left _ (List.mem_of_getElem? (i := 13) rfl)))) dX12_next_149 ?_
            refine lv_lsub hx hb dX12_next_152 ?_
            refine lv_topl (fun y152 e152 => ?_)
            exact J153 y152 _ _ _ (by first | omega | decide) (by first | omega | decide) (by first | omega | decide) (by first | omega | decide) (hP.sub [0, 1] rfl) (hD.sub [0, 1] (by decide) rfl) hS (lv_sub hl [0, 1] rfl)
        exact J102 _ 0 j0_m_at 0 _ _ _ (Nat.lt_succ_self _) (ir_w r89_0a (by decide) (by decide)) (by have kc0 : (0 : Int32).toInt = 0 := rfl; first | omega | decide) (by have kc0 : (0 : Int32).toInt = 0 := rfl; first | omega | decide) (by have kc0 : (0 : Int32).toInt = 0 := rfl; first | omega | decide) (by have kc0 : (0 : Int32).toInt = 0 := rfl; first | omega | decide) (hP.sub [0, 1] rfl) (hD.sub [0, 1] (by decide) rfl) hS (lv_sub hl [1, 0] rfl)
      subst er89
      have fc89_0 : ¬ (j0_m_at.toInt < m_taped.toInt ∧ 97 ≤ (m_tape_c j0_m_at.toNatClampNeg).toInt ∧ (m_tape_c j0_m_at.toNatClampNeg).toInt ≤ 122) := fc89_0
      refine lv_if_eq (tgt := 188) hx hb dX12_next_92 (by decide) (fun _ => ?_) (fun c => absurd c (by decide))
      refine lv_aload_n hx hb dX12_next_188 rfl (lv_at hl 0 rfl) ?_
      refine lv_aload_n hx hb dX12_next_189 rfl (lv_at hl 0 rfl) ?_
      refine va_get (D := g) (ci := 11) (v := .int j0_m_at) (C := RX12) (T := TX12) (N := 56) hx hb hts iX12 hown hK hP 0 rfl rfl 7 (by decide) (hts (.fieldLink RX12 131 "CardsAtYuleModel" "at" "I") (List.mem_cons_of_mem _ (List.mem_append_left _ (List.mem_of_getElem? (i := 0) rfl)))) (fun _ h9 => h9) rfl dX12_next_190 ?_
      refine lv_bipush (v := 48) hx hb dX12_next_193 (by decide) ?_
      refine lv_bipush (v := 57) hx hb dX12_next_195 (by decide) ?_
      refine ro_i (va_runV (As := [.int j0_m_at, .int 48, .int 57]) (rest := []) ⟨hx, hb, hml, hown, hts⟩ (q_X12_isByte l g cI cJ cB cZ cL j0_m_at 48 57 m m_a m_thrown m_taped j0_m_at m_token j0_m_at 0 0 m_bad m_badPlace m_fault m_faultPlace m_willing m_will m_forgot m_isDrawn m_x m_begin m_round m_roundCards m_fate m_any m_bothSend m_meanCards m_bestSum m_fitMany m_fitFirst m_fitSecond m_tape_c H.size hj0_m_at hv_m_taped hj0_m_at hv_m_will hv_m_isDrawn) (cwV 3 hts (goodIn_app (g_4 (List.mem_cons_of_mem _ (List.mem_append_left _ (List.mem_of_getElem? (i := 1) rfl))) (List.mem_cons_of_mem _ (List.mem_append_left _ (List.mem_of_getElem? (i := 2) rfl))) (List.mem_cons_of_mem _ (List.mem_append_left _ (List.mem_of_getElem? (i := 3) rfl))) (List.mem_cons_of_mem _ (List.mem_append_left _ (List.mem_of_getElem? (i := 4) rfl))) (by decide +kernel)) (goodIn_sub (fun _ h => List.mem_cons_of_mem _ (List.mem_append_right _ (List.mem_append_left _ h))) good_v_X12_isByte)) rfl rfl rfl (by decide +kernel) ⟨Nat.le_of_ble_eq_true rfl, Nat.le_of_ble_eq_true rfl⟩) (pv_RO (q := (RX12, TX12, 56)) (ci := 11) (q0 := 0) (wc := [(m, .inr (11, mG m_a m_thrown m_taped j0_m_at m_token j0_m_at 0 0 m_bad m_badPlace m_fault m_faultPlace m_willing m_will m_forgot m_isDrawn m_x m_begin m_round m_roundCards m_fate m_any m_bothSend m_meanCards m_bestSum m_fitMany m_fitFirst m_fitSecond)), ((m_a 5), .inl (cB, 1600, .inl m_tape_c))]) hK hP [0, 1] rfl rfl rfl) rfl rfl hl.1 rfl (lv_room (Nat.le_of_ble_eq_true rfl)) dX12_next_197 ⟨Nat.le_of_ble_eq_true rfl, Nat.le_of_ble_eq_true rfl⟩) hS hA hP (fun r197 u197 H locs hw197 hP hS => ?_)
      have hw197_0 := hw197
      rcases hw197_0 with ⟨er197, fc197_0, fc197_1⟩ | ⟨er197, fc197_0⟩
      rotate_left 1
      · subst er197
        have fc197_0 : ¬ (j0_m_at.toInt < m_taped.toInt ∧ 48 ≤ (m_tape_c j0_m_at.toNatClampNeg).toInt ∧ (m_tape_c j0_m_at.toNatClampNeg).toInt ≤ 57) := fc197_0
        refine lv_if_eq (tgt := 274) hx hb dX12_next_200 (by decide) (fun _ => ?_) (fun c => absurd c (by decide))
        refine lv_aload_n hx hb dX12_next_274 rfl (lv_at hl 0 rfl) ?_
        refine lv_aload_n hx hb dX12_next_275 rfl (lv_at hl 0 rfl) ?_
        refine va_get (D := g) (ci := 11) (v := .ref (m_a 5)) (C := RX12) (T := TX12) (N := 56) hx hb hts iX12 hown hK hP 0 rfl rfl 5 (by decide) (hts (.fieldLink RX12 23 "CardsAtYuleModel" "tape" "[B") (List.mem_cons_of_mem _ (List.mem_append_left _ (List.mem_of_getElem? (i := 12) rfl)))) (fun _ h9 => h9) rfl dX12_next_276 ?_
        refine lv_aload_n hx hb dX12_next_279 rfl (lv_at hl 0 rfl) ?_
        refine va_get (D := g) (ci := 11) (v := .int j0_m_at) (C := RX12) (T := TX12) (N := 56) hx hb hts iX12 hown hK hP 0 rfl rfl 7 (by decide) (hts (.fieldLink RX12 131 "CardsAtYuleModel" "at" "I") (List.mem_cons_of_mem _ (List.mem_append_left _ (List.mem_of_getElem? (i := 0) rfl)))) (fun _ h9 => h9) rfl dX12_next_280 ?_
        refine va_bald (D := g) hx hb hK hP 1 2 rfl rfl (vi_in rfl (by omega) (by omega)) dX12_next_283 ?_
        refine lv_topi (fun y283 e283 => ?_)
        refine lv_bipush (v := 59) hx hb dX12_next_284 (by decide) ?_
        refine lv_icmp_ne (tgt := 293) hx hb dX12_next_286 (by decide) (fun c286 => ?_) (fun c286 => ?_)
        · have f286 := (show y283.toInt ≠ 59 from z_ne rfl rfl c286)
          refine lv_iconst (v := 4) hx hb dX12_next_293 (by decide) ?_
          refine va_put (D := g) (ci := 11) (v := .int 4) (ty := .int) (C := RX12) (T := TX12) (N := 56) hx hb hts iX12 tyX12 tyX12_ok nmX12 hown hK hP hD hS 0 rfl rfl 8 (by decide) (hts (.fieldLink RX12 148 "CardsAtYuleModel" "token" "I") (List.mem_cons_of_mem _ (List.mem_append_left _ (List.mem_of_getElem? (i := 9) rfl)))) (fun _ h9 => h9) rfl (by decide +kernel) rfl rfl (Nat.le_of_ble_eq_true rfl) dX12_next_294 (fun H locs hP hD hS => ?_)
          have hP : va_P g vwCl [(m, .inr (11, mG m_a m_thrown m_taped j0_m_at 4 j0_m_at 0 0 m_bad m_badPlace m_fault m_faultPlace m_willing m_will m_forgot m_isDrawn m_x m_begin m_round m_roundCards m_fate m_any m_bothSend m_meanCards m_bestSum m_fitMany m_fitFirst m_fitSecond)), ((m_a 5), .inl (cB, 1600, .inl m_tape_c))] H := hP
          have hD : va_D A [(m, .inr (11, mG m_a m_thrown m_taped j0_m_at 4 j0_m_at 0 0 m_bad m_badPlace m_fault m_faultPlace m_willing m_will m_forgot m_isDrawn m_x m_begin m_round m_roundCards m_fate m_any m_bothSend m_meanCards m_bestSum m_fitMany m_fitFirst m_fitSecond)), ((m_a 5), .inl (cB, 1600, .inl m_tape_c))] := hD
          refine lv_aload_n hx hb dX12_next_297 rfl (lv_at hl 0 rfl) ?_
          refine lv_dup hx hb dX12_next_298 rfl ?_
          refine va_get (D := g) (ci := 11) (v := .int j0_m_at) (C := RX12) (T := TX12) (N := 56) hx hb hts iX12 hown hK hP 0 rfl rfl 7 (by decide) (hts (.fieldLink RX12 131 "CardsAtYuleModel" "at" "I") (List.mem_cons_of_mem _ (List.mem_append_left _ (List.mem_of_getElem? (i := 0) rfl)))) (fun _ h9 => h9) rfl dX12_next_299 ?_
          refine lv_iconst (v := 1) hx hb dX12_next_302 (by decide) ?_
          refine lv_iadd hx hb dX12_next_303 ?_
          refine lv_topi (fun y303 e303 => ?_)
          have q303 : y303.toInt = j0_m_at.toInt + 1 := by rw [e303]; exact ad_z rfl rfl hj0_m_at (ir_c 1) (by decide) (by decide)
          have r303 : ir y303.toInt 1 1601 := ad_r q303 hj0_m_at (ir_c 1) (by decide) (by decide)
          refine va_put (D := g) (ci := 11) (v := .int y303) (ty := .int) (C := RX12) (T := TX12) (N := 56) hx hb hts iX12 tyX12 tyX12_ok nmX12 hown hK hP hD hS 0 rfl rfl 7 (by decide) (hts (.fieldLink RX12 131 "CardsAtYuleModel" "at" "I") (List.mem_cons_of_mem _ (List.mem_append_left _ (List.mem_of_getElem? (i := 0) rfl)))) (fun _ h9 => h9) rfl (by decide +kernel) rfl rfl (Nat.le_of_ble_eq_true rfl) dX12_next_304 (fun H locs hP hD hS => ?_)
          have hP : va_P g vwCl [(m, .inr (11, mG m_a m_thrown m_taped y303 4 j0_m_at 0 0 m_bad m_badPlace m_fault m_faultPlace m_willing m_will m_forgot m_isDrawn m_x m_begin m_round m_roundCards m_fate m_any m_bothSend m_meanCards m_bestSum m_fitMany m_fitFirst m_fitSecond)), ((m_a 5), .inl (cB, 1600, .inl m_tape_c))] H := hP
          have hD : va_D A [(m, .inr (11, mG m_a m_thrown m_taped y303 4 j0_m_at 0 0 m_bad m_badPlace m_fault m_faultPlace m_willing m_will m_forgot m_isDrawn m_x m_begin m_round m_roundCards m_fate m_any m_bothSend m_meanCards m_bestSum m_fitMany m_fitFirst m_fitSecond)), ((m_a 5), .inl (cB, 1600, .inl m_tape_c))] := hD
          subst hQ
          have hP9 := hP.sub (ws' := [(m, .inr (11, mG m_a m_thrown m_taped y303 4 j0_m_at 0 0 m_bad m_badPlace m_fault m_faultPlace m_willing m_will m_forgot m_isDrawn m_x m_begin m_round m_roundCards m_fate m_any m_bothSend m_meanCards m_bestSum m_fitMany m_fitFirst m_fitSecond)), ((m_a 5), .inl (cB, 1600, .inl m_tape_c))]) [0, 1] rfl
          have hD9 := hD.sub (ws' := [(m, .inr (11, mG m_a m_thrown m_taped y303 4 j0_m_at 0 0 m_bad m_badPlace m_fault m_faultPlace m_willing m_will m_forgot m_isDrawn m_x m_begin m_round m_roundCards m_fate m_any m_bothSend m_meanCards m_bestSum m_fitMany m_fitFirst m_fitSecond)), ((m_a 5), .inl (cB, 1600, .inl m_tape_c))]) [0, 1] (by decide) rfl
          exact W.vret hx hb hr (fun t ht hW => ⟨⟨(y303, 4, j0_m_at, 0, 0), rfl, ⟨(by omega), (show ir (4 : Int32).toInt 0 4 by decide), hj0_m_at, (by have kc0 : (0 : Int32).toInt = 0 := rfl; have kc1 : (4 : Int32).toInt = 4 := rfl; omega)⟩, ⟨by rw [ht]; exact hP9, va_K.moved hW.alike hK, hD9⟩⟩, hS.F ht⟩) hS.2.2 dX12_next_307
        have f286 := (show y283.toInt = 59 from z_eq rfl rfl c286)
        have r286a : ir y283.toInt 59 59 := ir_eqa f286 (rg_all y283) (ir_c 59) (by decide) (by decide)
        refine lv_iconst (v := 3) hx hb dX12_next_289 (by decide) ?_
        refine lv_goto (tgt := 294) hx hb dX12_next_290 (by decide) ?_
        refine va_put (D := g) (ci := 11) (v := .int 3) (ty := .int) (C := RX12) (T := TX12) (N := 56) hx hb hts iX12 tyX12 tyX12_ok nmX12 hown hK hP hD hS 0 rfl rfl 8 (by decide) (hts (.fieldLink RX12 148 "CardsAtYuleModel" "token" "I") (List.mem_cons_of_mem _ (List.mem_append_left _ (List.mem_of_getElem? (i := 9) rfl)))) (fun _ h9 => h9) rfl (by decide +kernel) rfl rfl (Nat.le_of_ble_eq_true rfl) dX12_next_294 (fun H locs hP hD hS => ?_)
        have hP : va_P g vwCl [(m, .inr (11, mG m_a m_thrown m_taped j0_m_at 3 j0_m_at 0 0 m_bad m_badPlace m_fault m_faultPlace m_willing m_will m_forgot m_isDrawn m_x m_begin m_round m_roundCards m_fate m_any m_bothSend m_meanCards m_bestSum m_fitMany m_fitFirst m_fitSecond)), ((m_a 5), .inl (cB, 1600, .inl m_tape_c))] H := hP
        have hD : va_D A [(m, .inr (11, mG m_a m_thrown m_taped j0_m_at 3 j0_m_at 0 0 m_bad m_badPlace m_fault m_faultPlace m_willing m_will m_forgot m_isDrawn m_x m_begin m_round m_roundCards m_fate m_any m_bothSend m_meanCards m_bestSum m_fitMany m_fitFirst m_fitSecond)), ((m_a 5), .inl (cB, 1600, .inl m_tape_c))] := hD
        refine lv_aload_n hx hb dX12_next_297 rfl (lv_at hl 0 rfl) ?_
        refine lv_dup hx hb dX12_next_298 rfl ?_
        refine va_get (D := g) (ci := 11) (v := .int j0_m_at) (C := RX12) (T := TX12) (N := 56) hx hb hts iX12 hown hK hP 0 rfl rfl 7 (by decide) (hts (.fieldLink RX12 131 "CardsAtYuleModel" "at" "I") (List.mem_cons_of_mem _ (List.mem_append_left _ (List.mem_of_getElem? (i := 0) rfl)))) (fun _ h9 => h9) rfl dX12_next_299 ?_
        refine lv_iconst (v := 1) hx hb dX12_next_302 (by decide) ?_
        refine lv_iadd hx hb dX12_next_303 ?_
        refine lv_topi (fun y303 e303 => ?_)
        have q303 : y303.toInt = j0_m_at.toInt + 1 := by rw [e303]; exact ad_z rfl rfl hj0_m_at (ir_c 1) (by decide) (by decide)
        have r303 : ir y303.toInt 1 1601 := ad_r q303 hj0_m_at (ir_c 1) (by decide) (by decide)
        refine va_put (D := g) (ci := 11) (v := .int y303) (ty := .int) (C := RX12) (T := TX12) (N := 56) hx hb hts iX12 tyX12 tyX12_ok nmX12 hown hK hP hD hS 0 rfl rfl 7 (by decide) (hts (.fieldLink RX12 131 "CardsAtYuleModel" "at" "I") (List.mem_cons_of_mem _ (List.mem_append_left _ (List.mem_of_getElem? (i := 0) rfl)))) (fun _ h9 => h9) rfl (by decide +kernel) rfl rfl (Nat.le_of_ble_eq_true rfl) dX12_next_304 (fun H locs hP hD hS => ?_)
        have hP : va_P g vwCl [(m, .inr (11, mG m_a m_thrown m_taped y303 3 j0_m_at 0 0 m_bad m_badPlace m_fault m_faultPlace m_willing m_will m_forgot m_isDrawn m_x m_begin m_round m_roundCards m_fate m_any m_bothSend m_meanCards m_bestSum m_fitMany m_fitFirst m_fitSecond)), ((m_a 5), .inl (cB, 1600, .inl m_tape_c))] H := hP
        have hD : va_D A [(m, .inr (11, mG m_a m_thrown m_taped y303 3 j0_m_at 0 0 m_bad m_badPlace m_fault m_faultPlace m_willing m_will m_forgot m_isDrawn m_x m_begin m_round m_roundCards m_fate m_any m_bothSend m_meanCards m_bestSum m_fitMany m_fitFirst m_fitSecond)), ((m_a 5), .inl (cB, 1600, .inl m_tape_c))] := hD
        subst hQ
        have hP9 := hP.sub (ws' := [(m, .inr (11, mG m_a m_thrown m_taped y303 3 j0_m_at 0 0 m_bad m_badPlace m_fault m_faultPlace m_willing m_will m_forgot m_isDrawn m_x m_begin m_round m_roundCards m_fate m_any m_bothSend m_meanCards m_bestSum m_fitMany m_fitFirst m_fitSecond)), ((m_a 5), .inl (cB, 1600, .inl m_tape_c))]) [0, 1] rfl
        have hD9 := hD.sub (ws' := [(m, .inr (11, mG m_a m_thrown m_taped y303 3 j0_m_at 0 0 m_bad m_badPlace m_fault m_faultPlace m_willing m_will m_forgot m_isDrawn m_x m_begin m_round m_roundCards m_fate m_any m_bothSend m_meanCards m_bestSum m_fitMany m_fitFirst m_fitSecond)), ((m_a 5), .inl (cB, 1600, .inl m_tape_c))]) [0, 1] (by decide) rfl
        exact W.vret hx hb hr (fun t ht hW => ⟨⟨(y303, 3, j0_m_at, 0, 0), rfl, ⟨(by omega), (show ir (3 : Int32).toInt 0 4 by decide), hj0_m_at, (by have kc0 : (0 : Int32).toInt = 0 := rfl; have kc1 : (3 : Int32).toInt = 3 := rfl; omega)⟩, ⟨by rw [ht]; exact hP9, va_K.moved hW.alike hK, hD9⟩⟩, hS.F ht⟩) hS.2.2 dX12_next_307
      subst er197
      have fc197_0 : j0_m_at.toInt < m_taped.toInt := fc197_0
      have r197_0a : ir j0_m_at.toInt 0 1599 := ir_lta fc197_0 hj0_m_at hv_m_taped (by decide)
      have r197_0b : ir m_taped.toInt 1 1600 := ir_ltb fc197_0 hj0_m_at hv_m_taped (by decide)
      have fc197_1 : 48 ≤ (m_tape_c j0_m_at.toNatClampNeg).toInt ∧ (m_tape_c j0_m_at.toNatClampNeg).toInt ≤ 57 := fc197_1
      refine lv_if_eq (tgt := 274) hx hb dX12_next_200 (by decide) (fun c => absurd c (by decide)) (fun _ => ?_)
      refine lv_aload_n hx hb dX12_next_203 rfl (lv_at hl 0 rfl) ?_
      refine lv_iconst (v := 2) hx hb dX12_next_204 (by decide) ?_
      refine va_put (D := g) (ci := 11) (v := .int 2) (ty := .int) (C := RX12) (T := TX12) (N := 56) hx hb hts iX12 tyX12 tyX12_ok nmX12 hown hK hP hD hS 0 rfl rfl 8 (by decide) (hts (.fieldLink RX12 148 "CardsAtYuleModel" "token" "I") (List.mem_cons_of_mem _ (List.mem_append_left _ (List.mem_of_getElem? (i := 9) rfl)))) (fun _ h9 => h9) rfl (by decide +kernel) rfl rfl (Nat.le_of_ble_eq_true rfl) dX12_next_205 (fun H locs hP hD hS => ?_)
      have hP : va_P g vwCl [(m, .inr (11, mG m_a m_thrown m_taped j0_m_at 2 j0_m_at 0 0 m_bad m_badPlace m_fault m_faultPlace m_willing m_will m_forgot m_isDrawn m_x m_begin m_round m_roundCards m_fate m_any m_bothSend m_meanCards m_bestSum m_fitMany m_fitFirst m_fitSecond)), ((m_a 5), .inl (cB, 1600, .inl m_tape_c))] H := hP
      have hD : va_D A [(m, .inr (11, mG m_a m_thrown m_taped j0_m_at 2 j0_m_at 0 0 m_bad m_badPlace m_fault m_faultPlace m_willing m_will m_forgot m_isDrawn m_x m_begin m_round m_roundCards m_fate m_any m_bothSend m_meanCards m_bestSum m_fitMany m_fitFirst m_fitSecond)), ((m_a 5), .inl (cB, 1600, .inl m_tape_c))] := hD
      have J208 : ∀ (n208 : Nat) (j208_m_at : Int32) (j208_m_value : Int32) (H : Heap) (locs : List Loc) (ls : Array Slot), (1601 - j208_m_at.toInt).toNat < n208 → (ir j208_m_at.toInt 0 1600) → (j208_m_at.toInt ≤ m_taped.toInt) → (m_at.toInt ≤ j0_m_at.toInt) → (j0_m_at.toInt ≤ j208_m_at.toInt) → (j0_m_at.toInt < j208_m_at.toInt ∨ (j208_m_at.toInt < m_taped.toInt ∧ 48 ≤ (m_tape_c j208_m_at.toNatClampNeg).toInt ∧ (m_tape_c j208_m_at.toNatClampNeg).toInt ≤ 57)) → va_P g vwCl [(m, .inr (11, mG m_a m_thrown m_taped j208_m_at 2 j0_m_at j208_m_value 0 m_bad m_badPlace m_fault m_faultPlace m_willing m_will m_forgot m_isDrawn m_x m_begin m_round m_roundCards m_fate m_any m_bothSend m_meanCards m_bestSum m_fitMany m_fitFirst m_fitSecond)), ((m_a 5), .inl (cB, 1600, .inl m_tape_c))] H → va_D A [(m, .inr (11, mG m_a m_thrown m_taped j208_m_at 2 j0_m_at j208_m_value 0 m_bad m_badPlace m_fault m_faultPlace m_willing m_will m_forgot m_isDrawn m_x m_begin m_round m_roundCards m_fate m_any m_bothSend m_meanCards m_bestSum m_fitMany m_fitFirst m_fitSecond)), ((m_a 5), .inl (cB, 1600, .inl m_tape_c))] → va_S A s.heap H locs → lv_has ls 2 [(0, .ref m)] → W p l e (headSpec v_X12_next ({ frames := 1, cells := 0, slots := 0, locals := 23 })).room s mth av below meth c H locs 0 0 QQ (F0 mth 208 ls []) := by
        intro n208
        induction n208 with
        | zero => exact fun j208_m_at j208_m_value H locs ls hn => absurd hn (Nat.not_lt_zero _)
        | succ n208 ih208 =>
          intro j208_m_at j208_m_value H locs ls hn208 hj208_m_at hi208_0 hi208_1 hi208_2 hi208_3 hP hD hS hl
          refine lv_aload_n hx hb dX12_next_208 rfl (lv_at hl 0 rfl) ?_
          refine lv_aload_n hx hb dX12_next_209 rfl (lv_at hl 0 rfl) ?_
          refine va_get (D := g) (ci := 11) (v := .int j208_m_at) (C := RX12) (T := TX12) (N := 56) hx hb hts iX12 hown hK hP 0 rfl rfl 7 (by decide) (hts (.fieldLink RX12 131 "CardsAtYuleModel" "at" "I") (List.mem_cons_of_mem _ (List.mem_append_left _ (List.mem_of_getElem? (i := 0) rfl)))) (fun _ h9 => h9) rfl dX12_next_210 ?_
          refine lv_bipush (v := 48) hx hb dX12_next_213 (by decide) ?_
          refine lv_bipush (v := 57) hx hb dX12_next_215 (by decide) ?_
          refine ro_i (va_runV (As := [.int j208_m_at, .int 48, .int 57]) (rest := []) ⟨hx, hb, hml, hown, hts⟩ (q_X12_isByte l g cI cJ cB cZ cL j208_m_at 48 57 m m_a m_thrown m_taped j208_m_at 2 j0_m_at j208_m_value 0 m_bad m_badPlace m_fault m_faultPlace m_willing m_will m_forgot m_isDrawn m_x m_begin m_round m_roundCards m_fate m_any m_bothSend m_meanCards m_bestSum m_fitMany m_fitFirst m_fitSecond m_tape_c H.size hj208_m_at (ir_w r197_0b (by decide) (by decide)) hj208_m_at hv_m_will hv_m_isDrawn) (cwV 3 hts (goodIn_app (g_4 (List.mem_cons_of_mem _ (List.mem_append_left _ (List.mem_of_getElem? (i := 1) rfl))) (List.mem_cons_of_mem _ (List.mem_append_left _ (List.mem_of_getElem? (i := 2) rfl))) (List.mem_cons_of_mem _ (List.mem_append_left _ (List.mem_of_getElem? (i := 3) rfl))) (List.mem_cons_of_mem _ (List.mem_append_left _ (List.mem_of_getElem? (i := 4) rfl))) (by decide +kernel)) (goodIn_sub (fun _ h => List.mem_cons_of_mem _ (List.mem_append_right _ (List.mem_append_left _ h))) good_v_X12_isByte)) rfl rfl rfl (by decide +kernel) ⟨Nat.le_of_ble_eq_true rfl, Nat.le_of_ble_eq_true rfl⟩) (pv_RO (q := (RX12, TX12, 56)) (ci := 11) (q0 := 0) (wc := [(m, .inr (11, mG m_a m_thrown m_taped j208_m_at 2 j0_m_at j208_m_value 0 m_bad m_badPlace m_fault m_faultPlace m_willing m_will m_forgot m_isDrawn m_x m_begin m_round m_roundCards m_fate m_any m_bothSend m_meanCards m_bestSum m_fitMany m_fitFirst m_fitSecond)), ((m_a 5), .inl (cB, 1600, .inl m_tape_c))]) hK hP [0, 1] rfl rfl rfl) rfl rfl hl.1 rfl (lv_room (Nat.le_of_ble_eq_true rfl)) dX12_next_217 ⟨Nat.le_of_ble_eq_true rfl, Nat.le_of_ble_eq_true rfl⟩) hS hA hP (fun r217 u217 H locs hw217 hP hS => ?_)
          have hw217_0 := hw217
          rcases hw217_0 with ⟨er217, fc217_0, fc217_1⟩ | ⟨er217, fc217_0⟩
          rotate_left 1
          · subst er217
            have fc217_0 : ¬ (j208_m_at.toInt < m_taped.toInt ∧ 48 ≤ (m_tape_c j208_m_at.toNatClampNeg).toInt ∧ (m_tape_c j208_m_at.toNatClampNeg).toInt ≤ 57) := fc217_0
            refine lv_if_eq (tgt := 307) hx hb dX12_next_220 (by decide) (fun _ => ?_) (fun c => absurd c (by decide))
            subst hQ
            have hP9 := hP.sub (ws' := [(m, .inr (11, mG m_a m_thrown m_taped j208_m_at 2 j0_m_at j208_m_value 0 m_bad m_badPlace m_fault m_faultPlace m_willing m_will m_forgot m_isDrawn m_x m_begin m_round m_roundCards m_fate m_any m_bothSend m_meanCards m_bestSum m_fitMany m_fitFirst m_fitSecond)), ((m_a 5), .inl (cB, 1600, .inl m_tape_c))]) [0, 1] rfl
            have hD9 := hD.sub (ws' := [(m, .inr (11, mG m_a m_thrown m_taped j208_m_at 2 j0_m_at j208_m_value 0 m_bad m_badPlace m_fault m_faultPlace m_willing m_will m_forgot m_isDrawn m_x m_begin m_round m_roundCards m_fate m_any m_bothSend m_meanCards m_bestSum m_fitMany m_fitFirst m_fitSecond)), ((m_a 5), .inl (cB, 1600, .inl m_tape_c))]) [0, 1] (by decide) rfl
            exact W.vret hx hb hr (fun t ht hW => ⟨⟨(j208_m_at, 2, j0_m_at, j208_m_value, 0), rfl, ⟨hj208_m_at, (show ir (2 : Int32).toInt 0 4 by decide), (ir_w r197_0a (by decide) (by decide)), (by have kc0 : (2 : Int32).toInt = 2 := rfl; omega)⟩, ⟨by rw [ht]; exact hP9, va_K.moved hW.alike hK, hD9⟩⟩, hS.F ht⟩) hS.2.2 dX12_next_307
          subst er217
          have fc217_0 : j208_m_at.toInt < m_taped.toInt := fc217_0
          have r217_0a : ir j208_m_at.toInt 0 1599 := ir_lta fc217_0 hj208_m_at r197_0b (by decide)
          have fc217_1 : 48 ≤ (m_tape_c j208_m_at.toNatClampNeg).toInt ∧ (m_tape_c j208_m_at.toNatClampNeg).toInt ≤ 57 := fc217_1
          refine lv_if_eq (tgt := 307) hx hb dX12_next_220 (by decide) (fun c => absurd c (by decide)) (fun _ => ?_)
          refine lv_aload_n hx hb dX12_next_223 rfl (lv_at hl 0 rfl) ?_
          refine lv_aload_n hx hb dX12_next_224 rfl (lv_at hl 0 rfl) ?_
          refine va_get (D := g) (ci := 11) (v := .int j208_m_value) (C := RX12) (T := TX12) (N := 56) hx hb hts iX12 hown hK hP 0 rfl rfl 10 (by decide) (hts (.fieldLink RX12 141 "CardsAtYuleModel" "value" "I") (List.mem_cons_of_mem _ (List.mem_append_left _ (List.mem_of_getElem? (i := 6) rfl)))) (fun _ h9 => h9) rfl dX12_next_225 ?_
          refine lv_ldc (v := 100000) hx hb hown (hts (.constant RX12 157 (100000)) (List.mem_cons_of_mem _ (List.mem_append_left _ (List.mem_of_getElem? (i := 14) rfl)))) dX12_next_228 ?_
          have J258 : ∀ (j258_s0 : Int32) (H : Heap) (locs : List Loc) (ls : Array Slot), (j208_m_at.toInt ≤ m_taped.toInt) → (m_at.toInt ≤ j0_m_at.toInt) → (j0_m_at.toInt ≤ j208_m_at.toInt) → (j208_m_at.toInt < m_taped.toInt) → va_P g vwCl [(m, .inr (11, mG m_a m_thrown m_taped j208_m_at 2 j0_m_at j208_m_value 0 m_bad m_badPlace m_fault m_faultPlace m_willing m_will m_forgot m_isDrawn m_x m_begin m_round m_roundCards m_fate m_any m_bothSend m_meanCards m_bestSum m_fitMany m_fitFirst m_fitSecond)), ((m_a 5), .inl (cB, 1600, .inl m_tape_c))] H → va_D A [(m, .inr (11, mG m_a m_thrown m_taped j208_m_at 2 j0_m_at j208_m_value 0 m_bad m_badPlace m_fault m_faultPlace m_willing m_will m_forgot m_isDrawn m_x m_begin m_round m_roundCards m_fate m_any m_bothSend m_meanCards m_bestSum m_fitMany m_fitFirst m_fitSecond)), ((m_a 5), .inl (cB, 1600, .inl m_tape_c))] → va_S A s.heap H locs → lv_has ls 2 [(0, .ref m)] → W p l e (headSpec v_X12_next ({ frames := 1, cells := 0, slots := 0, locals := 23 })).room s mth av below meth c H locs 0 0 QQ (F0 mth 258 ls [.int j258_s0, .ref m]) := by
            intro j258_s0 H locs ls hi258_0 hi258_1 hi258_2 hi258_3 hP hD hS hl
            refine va_put (D := g) (ci := 11) (v := .int j258_s0) (ty := .int) (C := RX12) (T := TX12) (N := 56) hx hb hts iX12 tyX12 tyX12_ok nmX12 hown hK hP hD hS 0 rfl rfl 10 (by decide) (hts (.fieldLink RX12 141 "CardsAtYuleModel" "value" "I") (List.mem_cons_of_mem _ (List.mem_append_left _ (List.mem_of_getElem? (i := 6) rfl)))) (fun _ h9 => h9) rfl (by decide +kernel) rfl rfl (Nat.le_of_ble_eq_true rfl) dX12_next_258 (fun H locs hP hD hS => ?_)
            have hP : va_P g vwCl [(m, .inr (11, mG m_a m_thrown m_taped j208_m_at 2 j0_m_at j258_s0 0 m_bad m_badPlace m_fault m_faultPlace m_willing m_will m_forgot m_isDrawn m_x m_begin m_round m_roundCards m_fate m_any m_bothSend m_meanCards m_bestSum m_fitMany m_fitFirst m_fitSecond)), ((m_a 5), .inl (cB, 1600, .inl m_tape_c))] H := hP
            have hD : va_D A [(m, .inr (11, mG m_a m_thrown m_taped j208_m_at 2 j0_m_at j258_s0 0 m_bad m_badPlace m_fault m_faultPlace m_willing m_will m_forgot m_isDrawn m_x m_begin m_round m_roundCards m_fate m_any m_bothSend m_meanCards m_bestSum m_fitMany m_fitFirst m_fitSecond)), ((m_a 5), .inl (cB, 1600, .inl m_tape_c))] := hD
            refine lv_aload_n hx hb dX12_next_261 rfl (lv_at hl 0 rfl) ?_
            refine lv_dup hx hb dX12_next_262 rfl ?_
            refine va_get (D := g) (ci := 11) (v := .int j208_m_at) (C := RX12) (T := TX12) (N := 56) hx hb hts iX12 hown hK hP 0 rfl rfl 7 (by decide) (hts (.fieldLink RX12 131 "CardsAtYuleModel" "at" "I") (List.mem_cons_of_mem _ (List.mem_append_left _ (List.mem_of_getElem? (i := 0) rfl)))) (fun _ h9 => h9) rfl dX12_next_263 ?_
            refine lv_iconst (v := 1) hx hb dX12_next_266 (by decide) ?_
            refine lv_iadd hx hb dX12_next_267 ?_
            refine lv_topi (fun y267 e267 => ?_)
            have q267 : y267.toInt = j208_m_at.toInt + 1 := by rw [e267]; exact ad_z rfl rfl r217_0a (ir_c 1) (by decide) (by decide)
            have r267 : ir y267.toInt 1 1600 := ad_r q267 r217_0a (ir_c 1) (by decide) (by decide)
            refine va_put (D := g) (ci := 11) (v := .int y267) (ty := .int) (C := RX12) (T := TX12) (N := 56) hx hb hts iX12 tyX12 tyX12_ok nmX12 hown hK hP hD hS 0 rfl rfl 7 (by decide) (hts (.fieldLink RX12 131 "CardsAtYuleModel" "at" "I") (List.mem_cons_of_mem _ (List.mem_append_left _ (List.mem_of_getElem? (i := 0) rfl)))) (fun _ h9 => h9) rfl (by decide +kernel) rfl rfl (Nat.le_of_ble_eq_true rfl) dX12_next_268 (fun H locs hP hD hS => ?_)
            have hP : va_P g vwCl [(m, .inr (11, mG m_a m_thrown m_taped y267 2 j0_m_at j258_s0 0 m_bad m_badPlace m_fault m_faultPlace m_willing m_will m_forgot m_isDrawn m_x m_begin m_round m_roundCards m_fate m_any m_bothSend m_meanCards m_bestSum m_fitMany m_fitFirst m_fitSecond)), ((m_a 5), .inl (cB, 1600, .inl m_tape_c))] H := hP
            have hD : va_D A [(m, .inr (11, mG m_a m_thrown m_taped y267 2 j0_m_at j258_s0 0 m_bad m_badPlace m_fault m_faultPlace m_willing m_will m_forgot m_isDrawn m_x m_begin m_round m_roundCards m_fate m_any m_bothSend m_meanCards m_bestSum m_fitMany m_fitFirst m_fitSecond)), ((m_a 5), .inl (cB, 1600, .inl m_tape_c))] := hD
            refine lv_goto (tgt := 208) hx hb dX12_next_271 (by decide) ?_
            exact ih208 y267 j258_s0 _ _ _ (by omega) (ir_w r267 (by decide) (by decide)) (by first | omega | decide) (by first | omega | decide) (by first | omega | decide) (by first | omega | decide) (hP.sub [0, 1] rfl) (hD.sub [0, 1] (by decide) rfl) hS (lv_sub hl [0] rfl)
          refine lv_icmp_le (tgt := 238) hx hb dX12_next_230 (by decide) (fun c230 => ?_) (fun c230 => ?_)
          rotate_left 1
          · have f230 := (show 100000 < j208_m_value.toInt from z_nle rfl rfl c230)
            have r230a : ir j208_m_value.toInt 100001 2147483647 := ir_ltb f230 (ir_c 100000) (rg_all j208_m_value) (by decide)
            refine lv_ldc (v := 1000000) hx hb hown (hts (.constant RX12 158 (1000000)) (List.mem_cons_of_mem _ (List.mem_append_left _ (List.mem_of_getElem? (i := 15) rfl)))) dX12_next_233 ?_
            refine lv_goto (tgt := 258) hx hb dX12_next_235 (by decide) ?_
            exact J258 1000000 _ _ _ (by have kc0 : (1000000 : Int32).toInt = 1000000 := rfl; first | omega | decide) (by have kc0 : (1000000 : Int32).toInt = 1000000 := rfl; first | omega | decide) (by have kc0 : (1000000 : Int32).toInt = 1000000 := rfl; first | omega | decide) (by have kc0 : (1000000 : Int32).toInt = 1000000 := rfl; first | omega | decide) (hP.sub [0, 1] rfl) (hD.sub [0, 1] (by decide) rfl) hS (lv_sub hl [0] rfl)
          have f230 := (show j208_m_value.toInt ≤ 100000 from z_le rfl rfl c230)
          have r230a : ir j208_m_value.toInt (-2147483648) 100000 := ir_lea f230 (rg_all j208_m_value) (ir_c 100000) (by decide)
          refine lv_bipush (v := 10) hx hb dX12_next_238 (by decide) ?_
          refine lv_aload_n hx hb dX12_next_240 rfl (lv_at hl 0 rfl) ?_
          refine va_get (D := g) (ci := 11) (v := .int j208_m_value) (C := RX12) (T := TX12) (N := 56) hx hb hts iX12 hown hK hP 0 rfl rfl 10 (by decide) (hts (.fieldLink RX12 141 "CardsAtYuleModel" "value" "I") (List.mem_cons_of_mem _ (List.mem_append_left _ (List.mem_of_getElem? (i := 6) rfl)))) (fun _ h9 => h9) rfl dX12_next_241 ?_
          refine lv_imul hx hb dX12_next_244 ?_
          refine lv_topi (fun y244 e244 => ?_)
          refine lv_aload_n hx hb dX12_next_245 rfl (lv_at hl 0 rfl) ?_
          refine va_get (D := g) (ci := 11) (v := .ref (m_a 5)) (C := RX12) (T := TX12) (N := 56) hx hb hts iX12 hown hK hP 0 rfl rfl 5 (by decide) (hts (.fieldLink RX12 23 "CardsAtYuleModel" "tape" "[B") (List.mem_cons_of_mem _ (List.mem_append_left _ (List.mem_of_getElem? (i := 12) rfl)))) (fun _ h9 => h9) rfl dX12_next_246 ?_
          refine lv_aload_n hx hb dX12_next_249 rfl (lv_at hl 0 rfl) ?_
          refine va_get (D := g) (ci := 11) (v := .int j208_m_at) (C := RX12) (T := TX12) (N := 56) hx hb hts iX12 hown hK hP 0 rfl rfl 7 (by decide) (hts (.fieldLink RX12 131 "CardsAtYuleModel" "at" "I") (List.mem_cons_of_mem _ (List.mem_append_left _ (List.mem_of_getElem? (i := 0) rfl)))) (fun _ h9 => h9) rfl dX12_next_250 ?_
          refine va_bald (D := g) hx hb hK hP 1 2 rfl rfl (vi_rg rfl r217_0a (by decide) (by decide)) dX12_next_253 ?_
          refine lv_topi (fun y253 e253 => ?_)
          refine lv_iadd hx hb dX12_next_254 ?_
          refine lv_topi (fun y254 e254 => ?_)
          refine lv_bipush (v := 48) hx hb dX12_next_255 (by decide) ?_
          refine lv_isub hx hb dX12_next_257 ?_
          refine lv_topi (fun y257 e257 => ?_)
          exact J258 y257 _ _ _ (by first | omega | decide) (by first | omega | decide) (by first | omega | decide) (by first | omega | decide) (hP.sub [0, 1] rfl) (hD.sub [0, 1] (by decide) rfl) hS (lv_sub hl [0] rfl)
      exact J208 _ j0_m_at 0 _ _ _ (Nat.lt_succ_self _) (ir_w r197_0a (by decide) (by decide)) (by have kc0 : (0 : Int32).toInt = 0 := rfl; first | omega | decide) (by have kc0 : (0 : Int32).toInt = 0 := rfl; first | omega | decide) (by have kc0 : (0 : Int32).toInt = 0 := rfl; first | omega | decide) (by have kc0 : (0 : Int32).toInt = 0 := rfl; first | omega | decide) (hP.sub [0, 1] rfl) (hD.sub [0, 1] (by decide) rfl) hS (lv_sub hl [0] rfl)
  exact J0 _ m_at _ _ _ (Nat.lt_succ_self _) hv_m_at (by first | omega | decide) (by first | omega | decide) (hP.sub [0, 1] rfl) (hD.sub [0, 1] (by decide) rfl) hS (lv_sub hl [0] rfl)
def v_X12_fails : List Cond := .code yX12_fails cX12_fails 2 none :: (([.fieldLink RX12 159 "CardsAtYuleModel" "bad" "I", .fieldLink RX12 138 "CardsAtYuleModel" "place" "I", .fieldLink RX12 162 "CardsAtYuleModel" "badPlace" "I"] : List Cond) ++ (wsX120 ++ ([] : List Cond)))
theorem good_v_X12_fails : v_X12_fails.all goodWord = true := ga_c (by decide +kernel) (ga_a (by decide +kernel) (ga_a good_wsX120 rfl))
set_option maxHeartbeats 4000000 in
set_option maxRecDepth 100000 in
theorem q_X12_fails (l : Launch) (g : va_G) (cI cJ cB cZ cL : ClassId) (p0 : Int32) (m : Nat) (m_a : Nat → Nat) (m_thrown : Int32) (m_taped : Int32) (m_at : Int32) (m_token : Int32) (m_place : Int32) (m_value : Int32) (m_word : Int64) (m_bad : Int32) (m_badPlace : Int32) (m_fault : Int32) (m_faultPlace : Int32) (m_willing : Int32) (m_will : Int32) (m_forgot : Int32) (m_isDrawn : Int32) (m_x : Int64) (m_begin : Int32) (m_round : Int32) (m_roundCards : Int32) (m_fate : Int32) (m_any : Int64) (m_bothSend : Int64) (m_meanCards : Int64) (m_bestSum : Int32) (m_fitMany : Int32) (m_fitFirst : Int64) (m_fitSecond : Int64) (sz : Nat) (hv_p0 : ir p0.toInt 1 3) (hv_m_taped : ir m_taped.toInt 0 1600) (hv_m_at : ir m_at.toInt 0 1600) (hv_m_will : ir m_will.toInt 0 1) (hv_m_isDrawn : ir m_isDrawn.toInt 0 1) : Met l yX12_fails v_X12_fails ({ frames := 0, cells := 0, slots := 0, locals := 0 }) (va_Pc [.ref m, .int p0] (pRW g (tyT cI cJ cB cZ cL) [(m, .inr (11, mG m_a m_thrown m_taped m_at m_token m_place m_value m_word m_bad m_badPlace m_fault m_faultPlace m_willing m_will m_forgot m_isDrawn m_x m_begin m_round m_roundCards m_fate m_any m_bothSend m_meanCards m_bestSum m_fitMany m_fitFirst m_fitSecond))] sz)) (va_Qv (fun (u : Int32 × Int32) => match u with | (n_m_bad, n_m_badPlace) => (n_m_bad.toInt ≠ 0)) (fun (u : Int32 × Int32) (t : State) => bRW g (tyT cI cJ cB cZ cL) (va_A [(m, .inr (11, mG m_a m_thrown m_taped m_at m_token m_place m_value m_word m_bad m_badPlace m_fault m_faultPlace m_willing m_will m_forgot m_isDrawn m_x m_begin m_round m_roundCards m_fate m_any m_bothSend m_meanCards m_bestSum m_fitMany m_fitFirst m_fitSecond))] sz) (match u with | (n_m_bad, n_m_badPlace) => [(m, .inr (11, mG m_a m_thrown m_taped m_at m_token m_place m_value m_word n_m_bad n_m_badPlace m_fault m_faultPlace m_willing m_will m_forgot m_isDrawn m_x m_begin m_round m_roundCards m_fate m_any m_bothSend m_meanCards m_bestSum m_fitMany m_fitFirst m_fitSecond))]) t) (va_A [(m, .inr (11, mG m_a m_thrown m_taped m_at m_token m_place m_value m_word m_bad m_badPlace m_fault m_faultPlace m_willing m_will m_forgot m_isDrawn m_x m_begin m_round m_roundCards m_fate m_any m_bothSend m_meanCards m_bestSum m_fitMany m_fitFirst m_fitSecond))] sz)) 0 0 (va_A [(m, .inr (11, mG m_a m_thrown m_taped m_at m_token m_place m_value m_word m_bad m_badPlace m_fault m_faultPlace m_willing m_will m_forgot m_isDrawn m_x m_begin m_round m_roundCards m_fate m_any m_bothSend m_meanCards m_bestSum m_fitMany m_fitFirst m_fitSecond))] sz) := by
  refine Met.ofW (cc := cX12_fails) (maxL := 2) (ret := none) (by decide) rfl ?_
  intro p e s mth args below meth c s₁ B hml hv
  obtain ⟨rfl, hsz, hP, hK, hD0⟩ := hv
  have hx := B.exec
  have hb := B.bytes
  have hr := B.returns
  have hts := atoms_spec (ws := v_X12_fails) B.pre
  have hown : s.vm.findClass RX12 = some mth.cls := findClass_of_methodNamed B.named
  have hlocks := B.notSynchronized
  clear B
  subst hsz
  have iX12 : ∀ w ∈ wsX120, w ∈ v_X12_fails := (fun _ h => List.mem_cons_of_mem _ (List.mem_append_right _ (List.mem_append_left _ h)))
  have hD := hD0.self (sz := s.heap.size)
  generalize hAe : (va_A [(m, .inr (11, mG m_a m_thrown m_taped m_at m_token m_place m_value m_word m_bad m_badPlace m_fault m_faultPlace m_willing m_will m_forgot m_isDrawn m_x m_begin m_round m_roundCards m_fate m_any m_bothSend m_meanCards m_bestSum m_fitMany m_fitFirst m_fitSecond))] s.heap.size) = A at hD ⊢
  have hA : ∀ q : Nat, s.heap.size ≤ q → A q := fun q h => by rw [← hAe]; exact Or.inr h
  have hS : va_S A s.heap s.heap [] := va_S.rf
  have hl := lv_entry ([.ref m, .int p0]) (n := 2) (Nat.le_of_ble_eq_true rfl)
  rw [lg_entry_eq]
  generalize (lg_sl ([.ref m, .int p0]) ++ List.replicate (2 - (lg_sl ([.ref m, .int p0])).length) Slot.unset).toArray = ls at hl ⊢
  generalize ([.ref m, .int p0] : List Value).toArray = av at hts ⊢
  generalize hQ : MQ below _ av s _ _ A = QQ
  have hl : lv_has ls 2 [(0, .ref m), (1, .int p0)] := hl
  have hP : va_P g vwCl [(m, .inr (11, mG m_a m_thrown m_taped m_at m_token m_place m_value m_word m_bad m_badPlace m_fault m_faultPlace m_willing m_will m_forgot m_isDrawn m_x m_begin m_round m_roundCards m_fate m_any m_bothSend m_meanCards m_bestSum m_fitMany m_fitFirst m_fitSecond))] s.heap := hP
  refine lv_aload_n hx hb dX12_fails_0 rfl (lv_at hl 0 rfl) ?_
  refine va_get (D := g) (ci := 11) (v := .int m_bad) (C := RX12) (T := TX12) (N := 56) hx hb hts iX12 hown hK hP 0 rfl rfl 12 (by decide) (hts (.fieldLink RX12 159 "CardsAtYuleModel" "bad" "I") (List.mem_cons_of_mem _ (List.mem_append_left _ (List.mem_of_getElem? (i := 0) rfl)))) (fun _ h9 => h9) rfl dX12_fails_1 ?_
  refine lv_if_eq (tgt := 8) hx hb dX12_fails_4 (by decide) (fun c4 => ?_) (fun c4 => ?_)
  rotate_left 1
  · have f4 := (show m_bad.toInt ≠ 0 from z_ne rfl rfl c4)
    subst hQ
    have hP9 := hP.sub (ws' := [(m, .inr (11, mG m_a m_thrown m_taped m_at m_token m_place m_value m_word m_bad m_badPlace m_fault m_faultPlace m_willing m_will m_forgot m_isDrawn m_x m_begin m_round m_roundCards m_fate m_any m_bothSend m_meanCards m_bestSum m_fitMany m_fitFirst m_fitSecond))]) [0] rfl
    have hD9 := hD.sub (ws' := [(m, .inr (11, mG m_a m_thrown m_taped m_at m_token m_place m_value m_word m_bad m_badPlace m_fault m_faultPlace m_willing m_will m_forgot m_isDrawn m_x m_begin m_round m_roundCards m_fate m_any m_bothSend m_meanCards m_bestSum m_fitMany m_fitFirst m_fitSecond))]) [0] (by decide) rfl
    exact W.vret hx hb hr (fun t ht hW => ⟨⟨(m_bad, m_badPlace), rfl, (by omega), ⟨by rw [ht]; exact hP9, va_K.moved hW.alike hK, hD9⟩⟩, hS.F ht⟩) hS.2.2 dX12_fails_7
  have f4 := (show m_bad.toInt = 0 from z_eq rfl rfl c4)
  have r4a : ir m_bad.toInt 0 0 := ir_eqa f4 (rg_all m_bad) (ir_c 0) (by decide) (by decide)
  refine lv_aload_n hx hb dX12_fails_8 rfl (lv_at hl 0 rfl) ?_
  refine lv_iload_n hx hb dX12_fails_9 rfl (lv_at hl 1 rfl) ?_
  refine va_put (D := g) (ci := 11) (v := .int p0) (ty := .int) (C := RX12) (T := TX12) (N := 56) hx hb hts iX12 tyX12 tyX12_ok nmX12 hown hK hP hD hS 0 rfl rfl 12 (by decide) (hts (.fieldLink RX12 159 "CardsAtYuleModel" "bad" "I") (List.mem_cons_of_mem _ (List.mem_append_left _ (List.mem_of_getElem? (i := 0) rfl)))) (fun _ h9 => h9) rfl (by decide +kernel) rfl rfl (Nat.le_of_ble_eq_true rfl) dX12_fails_10 (fun H locs hP hD hS => ?_)
  have hP : va_P g vwCl [(m, .inr (11, mG m_a m_thrown m_taped m_at m_token m_place m_value m_word p0 m_badPlace m_fault m_faultPlace m_willing m_will m_forgot m_isDrawn m_x m_begin m_round m_roundCards m_fate m_any m_bothSend m_meanCards m_bestSum m_fitMany m_fitFirst m_fitSecond))] H := hP
  have hD : va_D A [(m, .inr (11, mG m_a m_thrown m_taped m_at m_token m_place m_value m_word p0 m_badPlace m_fault m_faultPlace m_willing m_will m_forgot m_isDrawn m_x m_begin m_round m_roundCards m_fate m_any m_bothSend m_meanCards m_bestSum m_fitMany m_fitFirst m_fitSecond))] := hD
  refine lv_aload_n hx hb dX12_fails_13 rfl (lv_at hl 0 rfl) ?_
  refine lv_aload_n hx hb dX12_fails_14 rfl (lv_at hl 0 rfl) ?_
  refine va_get (D := g) (ci := 11) (v := .int m_place) (C := RX12) (T := TX12) (N := 56) hx hb hts iX12 hown hK hP 0 rfl rfl 9 (by decide) (hts (.fieldLink RX12 138 "CardsAtYuleModel" "place" "I") (List.mem_cons_of_mem _ (List.mem_append_left _ (List.mem_of_getElem? (i := 1) rfl)))) (fun _ h9 => h9) rfl dX12_fails_15 ?_
  refine va_put (D := g) (ci := 11) (v := .int m_place) (ty := .int) (C := RX12) (T := TX12) (N := 56) hx hb hts iX12 tyX12 tyX12_ok nmX12 hown hK hP hD hS 0 rfl rfl 13 (by decide) (hts (.fieldLink RX12 162 "CardsAtYuleModel" "badPlace" "I") (List.mem_cons_of_mem _ (List.mem_append_left _ (List.mem_of_getElem? (i := 2) rfl)))) (fun _ h9 => h9) rfl (by decide +kernel) rfl rfl (Nat.le_of_ble_eq_true rfl) dX12_fails_18 (fun H locs hP hD hS => ?_)
  have hP : va_P g vwCl [(m, .inr (11, mG m_a m_thrown m_taped m_at m_token m_place m_value m_word p0 m_place m_fault m_faultPlace m_willing m_will m_forgot m_isDrawn m_x m_begin m_round m_roundCards m_fate m_any m_bothSend m_meanCards m_bestSum m_fitMany m_fitFirst m_fitSecond))] H := hP
  have hD : va_D A [(m, .inr (11, mG m_a m_thrown m_taped m_at m_token m_place m_value m_word p0 m_place m_fault m_faultPlace m_willing m_will m_forgot m_isDrawn m_x m_begin m_round m_roundCards m_fate m_any m_bothSend m_meanCards m_bestSum m_fitMany m_fitFirst m_fitSecond))] := hD
  subst hQ
  have hP9 := hP.sub (ws' := [(m, .inr (11, mG m_a m_thrown m_taped m_at m_token m_place m_value m_word p0 m_place m_fault m_faultPlace m_willing m_will m_forgot m_isDrawn m_x m_begin m_round m_roundCards m_fate m_any m_bothSend m_meanCards m_bestSum m_fitMany m_fitFirst m_fitSecond))]) [0] rfl
  have hD9 := hD.sub (ws' := [(m, .inr (11, mG m_a m_thrown m_taped m_at m_token m_place m_value m_word p0 m_place m_fault m_faultPlace m_willing m_will m_forgot m_isDrawn m_x m_begin m_round m_roundCards m_fate m_any m_bothSend m_meanCards m_bestSum m_fitMany m_fitFirst m_fitSecond))]) [0] (by decide) rfl
  exact W.vret hx hb hr (fun t ht hW => ⟨⟨(p0, m_place), rfl, (by omega), ⟨by rw [ht]; exact hP9, va_K.moved hW.alike hK, hD9⟩⟩, hS.F ht⟩) hS.2.2 dX12_fails_21
def v_X12_isGood : List Cond := .code yX12_isGood cX12_isGood 1 (some .boolean) :: (([.fieldLink RX12 159 "CardsAtYuleModel" "bad" "I"] : List Cond) ++ (wsX120 ++ ([] : List Cond)))
theorem good_v_X12_isGood : v_X12_isGood.all goodWord = true := ga_c (by decide +kernel) (ga_a (by decide +kernel) (ga_a good_wsX120 rfl))
set_option maxHeartbeats 4000000 in
set_option maxRecDepth 100000 in
theorem q_X12_isGood (l : Launch) (g : va_G) (cI cJ cB cZ cL : ClassId) (m : Nat) (m_a : Nat → Nat) (m_thrown : Int32) (m_taped : Int32) (m_at : Int32) (m_token : Int32) (m_place : Int32) (m_value : Int32) (m_word : Int64) (m_bad : Int32) (m_badPlace : Int32) (m_fault : Int32) (m_faultPlace : Int32) (m_willing : Int32) (m_will : Int32) (m_forgot : Int32) (m_isDrawn : Int32) (m_x : Int64) (m_begin : Int32) (m_round : Int32) (m_roundCards : Int32) (m_fate : Int32) (m_any : Int64) (m_bothSend : Int64) (m_meanCards : Int64) (m_bestSum : Int32) (m_fitMany : Int32) (m_fitFirst : Int64) (m_fitSecond : Int64) (sz : Nat) (hv_m_taped : ir m_taped.toInt 0 1600) (hv_m_at : ir m_at.toInt 0 1600) (hv_m_will : ir m_will.toInt 0 1) (hv_m_isDrawn : ir m_isDrawn.toInt 0 1) : Met l yX12_isGood v_X12_isGood ({ frames := 0, cells := 0, slots := 0, locals := 0 }) (va_Pc [.ref m] (pRO g (tyT cI cJ cB cZ cL) [(m, .inr (11, mG m_a m_thrown m_taped m_at m_token m_place m_value m_word m_bad m_badPlace m_fault m_faultPlace m_willing m_will m_forgot m_isDrawn m_x m_begin m_round m_roundCards m_fate m_any m_bothSend m_meanCards m_bestSum m_fitMany m_fitFirst m_fitSecond))] sz)) (va_Qi (fun (r : Int32) (u : Unit) => ((r = 1 ∧ m_bad.toInt = 0) ∨ (r = 0 ∧ m_bad.toInt ≠ 0))) (fun (_ : Unit) (_ : State) => True) (va_A [] sz)) 0 0 (va_A [] sz) := by
  refine Met.ofW (cc := cX12_isGood) (maxL := 1) (ret := (some .boolean)) (by decide) rfl ?_
  intro p e s mth args below meth c s₁ B hml hv
  obtain ⟨rfl, hsz, hP, hK⟩ := hv
  have hx := B.exec
  have hb := B.bytes
  have hr := B.returns
  have hts := atoms_spec (ws := v_X12_isGood) B.pre
  have hown : s.vm.findClass RX12 = some mth.cls := findClass_of_methodNamed B.named
  have hlocks := B.notSynchronized
  clear B
  subst hsz
  have iX12 : ∀ w ∈ wsX120, w ∈ v_X12_isGood := (fun _ h => List.mem_cons_of_mem _ (List.mem_append_right _ (List.mem_append_left _ h)))
  generalize hAe : (va_A [] s.heap.size) = A
  have hA : ∀ q : Nat, s.heap.size ≤ q → A q := fun q h => by rw [← hAe]; exact Or.inr h
  have hS : va_S A s.heap s.heap [] := va_S.rf
  have hl := lv_entry ([.ref m]) (n := 1) (Nat.le_of_ble_eq_true rfl)
  rw [lg_entry_eq]
  generalize (lg_sl ([.ref m]) ++ List.replicate (1 - (lg_sl ([.ref m])).length) Slot.unset).toArray = ls at hl ⊢
  generalize ([.ref m] : List Value).toArray = av at hts ⊢
  generalize hQ : MQ below _ av s _ _ A = QQ
  have hl : lv_has ls 1 [(0, .ref m)] := hl
  have hP : va_P g vwCl [(m, .inr (11, mG m_a m_thrown m_taped m_at m_token m_place m_value m_word m_bad m_badPlace m_fault m_faultPlace m_willing m_will m_forgot m_isDrawn m_x m_begin m_round m_roundCards m_fate m_any m_bothSend m_meanCards m_bestSum m_fitMany m_fitFirst m_fitSecond))] s.heap := hP
  refine lv_aload_n hx hb dX12_isGood_0 rfl (lv_at hl 0 rfl) ?_
  refine va_get (D := g) (ci := 11) (v := .int m_bad) (C := RX12) (T := TX12) (N := 56) hx hb hts iX12 hown hK hP 0 rfl rfl 12 (by decide) (hts (.fieldLink RX12 159 "CardsAtYuleModel" "bad" "I") (List.mem_cons_of_mem _ (List.mem_append_left _ (List.mem_of_getElem? (i := 0) rfl)))) (fun _ h9 => h9) rfl dX12_isGood_1 ?_
  refine lv_if_ne (tgt := 11) hx hb dX12_isGood_4 (by decide) (fun c4 => ?_) (fun c4 => ?_)
  · have f4 := (show m_bad.toInt ≠ 0 from z_ne rfl rfl c4)
    refine lv_iconst (v := 0) hx hb dX12_isGood_11 (by decide) ?_
    subst hQ
    exact W.zret (v := 0) hx hb hr rfl (fun t ht hW => ⟨⟨0, (), rfl, (Or.inr ⟨rfl, (by first | omega | decide)⟩), trivial⟩, hS.F ht⟩) hS.2.2 dX12_isGood_12
  have f4 := (show m_bad.toInt = 0 from z_eq rfl rfl c4)
  have r4a : ir m_bad.toInt 0 0 := ir_eqa f4 (rg_all m_bad) (ir_c 0) (by decide) (by decide)
  refine lv_iconst (v := 1) hx hb dX12_isGood_7 (by decide) ?_
  refine lv_goto (tgt := 12) hx hb dX12_isGood_8 (by decide) ?_
  subst hQ
  exact W.zret (v := 1) hx hb hr rfl (fun t ht hW => ⟨⟨1, (), rfl, (Or.inl ⟨rfl, (by first | omega | decide)⟩), trivial⟩, hS.F ht⟩) hS.2.2 dX12_isGood_12
def v_X12_is : List Cond := .code yX12_is cX12_is 3 (some .boolean) :: (([.fieldLink RX12 159 "CardsAtYuleModel" "bad" "I", .fieldLink RX12 148 "CardsAtYuleModel" "token" "I", .fieldLink RX12 144 "CardsAtYuleModel" "word" "J"] : List Cond) ++ (wsX120 ++ ([] : List Cond)))
theorem good_v_X12_is : v_X12_is.all goodWord = true := ga_c (by decide +kernel) (ga_a (by decide +kernel) (ga_a good_wsX120 rfl))
set_option maxHeartbeats 4000000 in
set_option maxRecDepth 100000 in
theorem q_X12_is (l : Launch) (g : va_G) (cI cJ cB cZ cL : ClassId) (p0 : Int64) (m : Nat) (m_a : Nat → Nat) (m_thrown : Int32) (m_taped : Int32) (m_at : Int32) (m_token : Int32) (m_place : Int32) (m_value : Int32) (m_word : Int64) (m_bad : Int32) (m_badPlace : Int32) (m_fault : Int32) (m_faultPlace : Int32) (m_willing : Int32) (m_will : Int32) (m_forgot : Int32) (m_isDrawn : Int32) (m_x : Int64) (m_begin : Int32) (m_round : Int32) (m_roundCards : Int32) (m_fate : Int32) (m_any : Int64) (m_bothSend : Int64) (m_meanCards : Int64) (m_bestSum : Int32) (m_fitMany : Int32) (m_fitFirst : Int64) (m_fitSecond : Int64) (sz : Nat) (hv_m_taped : ir m_taped.toInt 0 1600) (hv_m_at : ir m_at.toInt 0 1600) (hv_m_will : ir m_will.toInt 0 1) (hv_m_isDrawn : ir m_isDrawn.toInt 0 1) : Met l yX12_is v_X12_is ({ frames := 0, cells := 0, slots := 0, locals := 0 }) (va_Pc [.ref m, .long p0] (pRO g (tyT cI cJ cB cZ cL) [(m, .inr (11, mG m_a m_thrown m_taped m_at m_token m_place m_value m_word m_bad m_badPlace m_fault m_faultPlace m_willing m_will m_forgot m_isDrawn m_x m_begin m_round m_roundCards m_fate m_any m_bothSend m_meanCards m_bestSum m_fitMany m_fitFirst m_fitSecond))] sz)) (va_Qi (fun (r : Int32) (u : Unit) => ((r = 1 ∧ m_bad.toInt = 0 ∧ m_token.toInt = 1) ∨ (r = 0))) (fun (_ : Unit) (_ : State) => True) (va_A [] sz)) 0 0 (va_A [] sz) := by
  refine Met.ofW (cc := cX12_is) (maxL := 3) (ret := (some .boolean)) (by decide) rfl ?_
  intro p e s mth args below meth c s₁ B hml hv
  obtain ⟨rfl, hsz, hP, hK⟩ := hv
  have hx := B.exec
  have hb := B.bytes
  have hr := B.returns
  have hts := atoms_spec (ws := v_X12_is) B.pre
  have hown : s.vm.findClass RX12 = some mth.cls := findClass_of_methodNamed B.named
  have hlocks := B.notSynchronized
  clear B
  subst hsz
  have iX12 : ∀ w ∈ wsX120, w ∈ v_X12_is := (fun _ h => List.mem_cons_of_mem _ (List.mem_append_right _ (List.mem_append_left _ h)))
  generalize hAe : (va_A [] s.heap.size) = A
  have hA : ∀ q : Nat, s.heap.size ≤ q → A q := fun q h => by rw [← hAe]; exact Or.inr h
  have hS : va_S A s.heap s.heap [] := va_S.rf
  have hl := lv_entry ([.ref m, .long p0]) (n := 3) (Nat.le_of_ble_eq_true rfl)
  rw [lg_entry_eq]
  generalize (lg_sl ([.ref m, .long p0]) ++ List.replicate (3 - (lg_sl ([.ref m, .long p0])).length) Slot.unset).toArray = ls at hl ⊢
  generalize ([.ref m, .long p0] : List Value).toArray = av at hts ⊢
  generalize hQ : MQ below _ av s _ _ A = QQ
  have hl : lv_has ls 3 [(0, .ref m), (1, .long p0)] := hl
  have hP : va_P g vwCl [(m, .inr (11, mG m_a m_thrown m_taped m_at m_token m_place m_value m_word m_bad m_badPlace m_fault m_faultPlace m_willing m_will m_forgot m_isDrawn m_x m_begin m_round m_roundCards m_fate m_any m_bothSend m_meanCards m_bestSum m_fitMany m_fitFirst m_fitSecond))] s.heap := hP
  refine lv_aload_n hx hb dX12_is_0 rfl (lv_at hl 0 rfl) ?_
  refine va_get (D := g) (ci := 11) (v := .int m_bad) (C := RX12) (T := TX12) (N := 56) hx hb hts iX12 hown hK hP 0 rfl rfl 12 (by decide) (hts (.fieldLink RX12 159 "CardsAtYuleModel" "bad" "I") (List.mem_cons_of_mem _ (List.mem_append_left _ (List.mem_of_getElem? (i := 0) rfl)))) (fun _ h9 => h9) rfl dX12_is_1 ?_
  refine lv_if_ne (tgt := 28) hx hb dX12_is_4 (by decide) (fun c4 => ?_) (fun c4 => ?_)
  · have f4 := (show m_bad.toInt ≠ 0 from z_ne rfl rfl c4)
    refine lv_iconst (v := 0) hx hb dX12_is_28 (by decide) ?_
    subst hQ
    exact W.zret (v := 0) hx hb hr rfl (fun t ht hW => ⟨⟨0, (), rfl, (Or.inr rfl), trivial⟩, hS.F ht⟩) hS.2.2 dX12_is_29
  have f4 := (show m_bad.toInt = 0 from z_eq rfl rfl c4)
  have r4a : ir m_bad.toInt 0 0 := ir_eqa f4 (rg_all m_bad) (ir_c 0) (by decide) (by decide)
  refine lv_aload_n hx hb dX12_is_7 rfl (lv_at hl 0 rfl) ?_
  refine va_get (D := g) (ci := 11) (v := .int m_token) (C := RX12) (T := TX12) (N := 56) hx hb hts iX12 hown hK hP 0 rfl rfl 8 (by decide) (hts (.fieldLink RX12 148 "CardsAtYuleModel" "token" "I") (List.mem_cons_of_mem _ (List.mem_append_left _ (List.mem_of_getElem? (i := 1) rfl)))) (fun _ h9 => h9) rfl dX12_is_8 ?_
  refine lv_iconst (v := 1) hx hb dX12_is_11 (by decide) ?_
  refine lv_icmp_ne (tgt := 28) hx hb dX12_is_12 (by decide) (fun c12 => ?_) (fun c12 => ?_)
  · have f12 := (show m_token.toInt ≠ 1 from z_ne rfl rfl c12)
    refine lv_iconst (v := 0) hx hb dX12_is_28 (by decide) ?_
    subst hQ
    exact W.zret (v := 0) hx hb hr rfl (fun t ht hW => ⟨⟨0, (), rfl, (Or.inr rfl), trivial⟩, hS.F ht⟩) hS.2.2 dX12_is_29
  have f12 := (show m_token.toInt = 1 from z_eq rfl rfl c12)
  have r12a : ir m_token.toInt 1 1 := ir_eqa f12 (rg_all m_token) (ir_c 1) (by decide) (by decide)
  refine lv_aload_n hx hb dX12_is_15 rfl (lv_at hl 0 rfl) ?_
  refine va_get (D := g) (ci := 11) (v := .long m_word) (C := RX12) (T := TX12) (N := 56) hx hb hts iX12 hown hK hP 0 rfl rfl 11 (by decide) (hts (.fieldLink RX12 144 "CardsAtYuleModel" "word" "J") (List.mem_cons_of_mem _ (List.mem_append_left _ (List.mem_of_getElem? (i := 2) rfl)))) (fun _ h9 => h9) rfl dX12_is_16 ?_
  refine lv_lload_n hx hb dX12_is_19 rfl (lv_at hl 1 rfl) ?_
  refine W.lcmp hx hb dX12_is_20 ?_
  refine lv_if_ne (tgt := 28) hx hb dX12_is_21 (by decide) (fun c21 => ?_) (fun c21 => ?_)
  · have f21 := (show m_word.toInt ≠ p0.toInt from y_ne rfl rfl c21)
    refine lv_iconst (v := 0) hx hb dX12_is_28 (by decide) ?_
    subst hQ
    exact W.zret (v := 0) hx hb hr rfl (fun t ht hW => ⟨⟨0, (), rfl, (Or.inr rfl), trivial⟩, hS.F ht⟩) hS.2.2 dX12_is_29
  have f21 := (show m_word.toInt = p0.toInt from y_eq rfl rfl c21)
  refine lv_iconst (v := 1) hx hb dX12_is_24 (by decide) ?_
  refine lv_goto (tgt := 29) hx hb dX12_is_25 (by decide) ?_
  subst hQ
  exact W.zret (v := 1) hx hb hr rfl (fun t ht hW => ⟨⟨1, (), rfl, (Or.inl ⟨rfl, (by first | omega | decide), (by first | omega | decide)⟩), trivial⟩, hS.F ht⟩) hS.2.2 dX12_is_29
def v_X12_takes : List Cond := .code yX12_takes cX12_takes 3 (some .boolean) :: (([.methodLink RX12 165 yX12_is, .instanceMethod yX12_is, .selects RX12 yX12_is yX12_is, .initialized RX12, .methodLink RX12 169 yX12_next, .instanceMethod yX12_next, .selects RX12 yX12_next yX12_next] : List Cond) ++ (v_X12_is ++ (v_X12_next ++ ([] : List Cond))))
theorem good_v_X12_takes : v_X12_takes.all goodWord = true := ga_c (by decide +kernel) (ga_a (by decide +kernel) (ga_a good_v_X12_is (ga_a good_v_X12_next rfl)))
set_option maxHeartbeats 4000000 in
set_option maxRecDepth 100000 in
theorem q_X12_takes (l : Launch) (g : va_G) (cI cJ cB cZ cL : ClassId) (p0 : Int64) (m : Nat) (m_a : Nat → Nat) (m_thrown : Int32) (m_taped : Int32) (m_at : Int32) (m_token : Int32) (m_place : Int32) (m_value : Int32) (m_word : Int64) (m_bad : Int32) (m_badPlace : Int32) (m_fault : Int32) (m_faultPlace : Int32) (m_willing : Int32) (m_will : Int32) (m_forgot : Int32) (m_isDrawn : Int32) (m_x : Int64) (m_begin : Int32) (m_round : Int32) (m_roundCards : Int32) (m_fate : Int32) (m_any : Int64) (m_bothSend : Int64) (m_meanCards : Int64) (m_bestSum : Int32) (m_fitMany : Int32) (m_fitFirst : Int64) (m_fitSecond : Int64) (m_tape_c : Nat → Int32) (sz : Nat) (hv_m_taped : ir m_taped.toInt 0 1600) (hv_m_at : ir m_at.toInt 0 1600) (hv_m_will : ir m_will.toInt 0 1) (hv_m_isDrawn : ir m_isDrawn.toInt 0 1) (hx_0 : m_at.toInt ≤ m_taped.toInt) : Met l yX12_takes v_X12_takes ({ frames := 2, cells := 0, slots := 0, locals := 44 }) (va_Pc [.ref m, .long p0] (pRW g (tyT cI cJ cB cZ cL) [(m, .inr (11, mG m_a m_thrown m_taped m_at m_token m_place m_value m_word m_bad m_badPlace m_fault m_faultPlace m_willing m_will m_forgot m_isDrawn m_x m_begin m_round m_roundCards m_fate m_any m_bothSend m_meanCards m_bestSum m_fitMany m_fitFirst m_fitSecond)), ((m_a 5), .inl (cB, 1600, .inl m_tape_c))] sz)) (va_Qi (fun (r : Int32) (u : Int32 × Int32 × Int32 × Int32 × Int64) => match u with | (n_m_at, n_m_token, n_m_place, n_m_value, n_m_word) => (ir n_m_at.toInt 0 1600) ∧ ((n_m_at.toInt = m_at.toInt ∧ n_m_token.toInt = m_token.toInt) ∨ (m_at.toInt ≤ n_m_at.toInt ∧ n_m_at.toInt ≤ m_taped.toInt ∧ 0 ≤ n_m_token.toInt ∧ n_m_token.toInt ≤ 4 ∧ (m_at.toInt < n_m_at.toInt ∨ (n_m_token.toInt = 0 ∧ n_m_at.toInt = m_taped.toInt)))) ∧ (ir r.toInt 0 1)) (fun (u : Int32 × Int32 × Int32 × Int32 × Int64) (t : State) => bRW g (tyT cI cJ cB cZ cL) (va_A [(m, .inr (11, mG m_a m_thrown m_taped m_at m_token m_place m_value m_word m_bad m_badPlace m_fault m_faultPlace m_willing m_will m_forgot m_isDrawn m_x m_begin m_round m_roundCards m_fate m_any m_bothSend m_meanCards m_bestSum m_fitMany m_fitFirst m_fitSecond)), ((m_a 5), .inl (cB, 1600, .inl m_tape_c))] sz) (match u with | (n_m_at, n_m_token, n_m_place, n_m_value, n_m_word) => [(m, .inr (11, mG m_a m_thrown m_taped n_m_at n_m_token n_m_place n_m_value n_m_word m_bad m_badPlace m_fault m_faultPlace m_willing m_will m_forgot m_isDrawn m_x m_begin m_round m_roundCards m_fate m_any m_bothSend m_meanCards m_bestSum m_fitMany m_fitFirst m_fitSecond)), ((m_a 5), .inl (cB, 1600, .inl m_tape_c))]) t) (va_A [(m, .inr (11, mG m_a m_thrown m_taped m_at m_token m_place m_value m_word m_bad m_badPlace m_fault m_faultPlace m_willing m_will m_forgot m_isDrawn m_x m_begin m_round m_roundCards m_fate m_any m_bothSend m_meanCards m_bestSum m_fitMany m_fitFirst m_fitSecond)), ((m_a 5), .inl (cB, 1600, .inl m_tape_c))] sz)) 0 0 (va_A [(m, .inr (11, mG m_a m_thrown m_taped m_at m_token m_place m_value m_word m_bad m_badPlace m_fault m_faultPlace m_willing m_will m_forgot m_isDrawn m_x m_begin m_round m_roundCards m_fate m_any m_bothSend m_meanCards m_bestSum m_fitMany m_fitFirst m_fitSecond)), ((m_a 5), .inl (cB, 1600, .inl m_tape_c))] sz) := by
  refine Met.ofW (cc := cX12_takes) (maxL := 3) (ret := (some .boolean)) (by decide) rfl ?_
  intro p e s mth args below meth c s₁ B hml hv
  obtain ⟨rfl, hsz, hP, hK, hD0⟩ := hv
  have hx := B.exec
  have hb := B.bytes
  have hr := B.returns
  have hts := atoms_spec (ws := v_X12_takes) B.pre
  have hown : s.vm.findClass RX12 = some mth.cls := findClass_of_methodNamed B.named
  have hlocks := B.notSynchronized
  clear B
  subst hsz
  have hD := hD0.self (sz := s.heap.size)
  generalize hAe : (va_A [(m, .inr (11, mG m_a m_thrown m_taped m_at m_token m_place m_value m_word m_bad m_badPlace m_fault m_faultPlace m_willing m_will m_forgot m_isDrawn m_x m_begin m_round m_roundCards m_fate m_any m_bothSend m_meanCards m_bestSum m_fitMany m_fitFirst m_fitSecond)), ((m_a 5), .inl (cB, 1600, .inl m_tape_c))] s.heap.size) = A at hD ⊢
  have hA : ∀ q : Nat, s.heap.size ≤ q → A q := fun q h => by rw [← hAe]; exact Or.inr h
  have hS : va_S A s.heap s.heap [] := va_S.rf
  have hl := lv_entry ([.ref m, .long p0]) (n := 3) (Nat.le_of_ble_eq_true rfl)
  rw [lg_entry_eq]
  generalize (lg_sl ([.ref m, .long p0]) ++ List.replicate (3 - (lg_sl ([.ref m, .long p0])).length) Slot.unset).toArray = ls at hl ⊢
  generalize ([.ref m, .long p0] : List Value).toArray = av at hts ⊢
  generalize hQ : MQ below _ av s _ _ A = QQ
  have hl : lv_has ls 3 [(0, .ref m), (1, .long p0)] := hl
  have hP : va_P g vwCl [(m, .inr (11, mG m_a m_thrown m_taped m_at m_token m_place m_value m_word m_bad m_badPlace m_fault m_faultPlace m_willing m_will m_forgot m_isDrawn m_x m_begin m_round m_roundCards m_fate m_any m_bothSend m_meanCards m_bestSum m_fitMany m_fitFirst m_fitSecond)), ((m_a 5), .inl (cB, 1600, .inl m_tape_c))] s.heap := hP
  refine lv_aload_n hx hb dX12_takes_0 rfl (lv_at hl 0 rfl) ?_
  refine lv_lload_n hx hb dX12_takes_1 rfl (lv_at hl 1 rfl) ?_
  refine ro_i (va_runV (As := [.long p0]) (rest := []) ⟨hx, hb, hml, hown, hts⟩ (q_X12_is l g cI cJ cB cZ cL p0 m m_a m_thrown m_taped m_at m_token m_place m_value m_word m_bad m_badPlace m_fault m_faultPlace m_willing m_will m_forgot m_isDrawn m_x m_begin m_round m_roundCards m_fate m_any m_bothSend m_meanCards m_bestSum m_fitMany m_fitFirst m_fitSecond s.heap.size hv_m_taped hv_m_at hv_m_will hv_m_isDrawn) (cwV 1 hts (goodIn_app (g_4 (List.mem_cons_of_mem _ (List.mem_append_left _ (List.mem_of_getElem? (i := 0) rfl))) (List.mem_cons_of_mem _ (List.mem_append_left _ (List.mem_of_getElem? (i := 1) rfl))) (List.mem_cons_of_mem _ (List.mem_append_left _ (List.mem_of_getElem? (i := 2) rfl))) (List.mem_cons_of_mem _ (List.mem_append_left _ (List.mem_of_getElem? (i := 3) rfl))) (by decide +kernel)) (goodIn_sub (fun _ h => List.mem_cons_of_mem _ (List.mem_append_right _ (List.mem_append_left _ h))) good_v_X12_is)) rfl rfl rfl (by decide +kernel) ⟨Nat.le_of_ble_eq_true rfl, Nat.le_of_ble_eq_true rfl⟩) (pv_RO (q := (RX12, TX12, 56)) (ci := 11) (q0 := 0) (wc := [(m, .inr (11, mG m_a m_thrown m_taped m_at m_token m_place m_value m_word m_bad m_badPlace m_fault m_faultPlace m_willing m_will m_forgot m_isDrawn m_x m_begin m_round m_roundCards m_fate m_any m_bothSend m_meanCards m_bestSum m_fitMany m_fitFirst m_fitSecond))]) hK hP [0] rfl rfl rfl) rfl rfl hl.1 rfl (lv_room (Nat.le_of_ble_eq_true rfl)) dX12_takes_2 ⟨Nat.le_of_ble_eq_true rfl, Nat.le_of_ble_eq_true rfl⟩) hS hA hP (fun r2 u2 H locs hw2 hP hS => ?_)
  have hw2_0 := hw2
  rcases hw2_0 with ⟨er2, fc2_0, fc2_1⟩ | er2
  rotate_left 1
  · subst er2
    refine lv_if_ne (tgt := 10) hx hb dX12_takes_5 (by decide) (fun c => absurd c (by decide)) (fun _ => ?_)
    refine lv_iconst (v := 0) hx hb dX12_takes_8 (by decide) ?_
    subst hQ
    have hP9 := hP.sub (ws' := [(m, .inr (11, mG m_a m_thrown m_taped m_at m_token m_place m_value m_word m_bad m_badPlace m_fault m_faultPlace m_willing m_will m_forgot m_isDrawn m_x m_begin m_round m_roundCards m_fate m_any m_bothSend m_meanCards m_bestSum m_fitMany m_fitFirst m_fitSecond)), ((m_a 5), .inl (cB, 1600, .inl m_tape_c))]) [0, 1] rfl
    have hD9 := hD.sub (ws' := [(m, .inr (11, mG m_a m_thrown m_taped m_at m_token m_place m_value m_word m_bad m_badPlace m_fault m_faultPlace m_willing m_will m_forgot m_isDrawn m_x m_begin m_round m_roundCards m_fate m_any m_bothSend m_meanCards m_bestSum m_fitMany m_fitFirst m_fitSecond)), ((m_a 5), .inl (cB, 1600, .inl m_tape_c))]) [0, 1] (by decide) rfl
    exact W.zret (v := 0) hx hb hr rfl (fun t ht hW => ⟨⟨0, (m_at, m_token, m_place, m_value, m_word), rfl, ⟨hv_m_at, (by have kc0 : (0 : Int32).toInt = 0 := rfl; omega), (show ir (0 : Int32).toInt 0 1 by decide)⟩, ⟨by rw [ht]; exact hP9, va_K.moved hW.alike hK, hD9⟩⟩, hS.F ht⟩) hS.2.2 dX12_takes_9
  subst er2
  have fc2_0 : m_bad.toInt = 0 := fc2_0
  have r2_0a : ir m_bad.toInt 0 0 := ir_eqa fc2_0 (rg_all m_bad) (ir_c 0) (by decide) (by decide)
  have fc2_1 : m_token.toInt = 1 := fc2_1
  have r2_1a : ir m_token.toInt 1 1 := ir_eqa fc2_1 (rg_all m_token) (ir_c 1) (by decide) (by decide)
  refine lv_if_ne (tgt := 10) hx hb dX12_takes_5 (by decide) (fun _ => ?_) (fun c => absurd c (by decide))
  refine lv_aload_n hx hb dX12_takes_10 rfl (lv_at hl 0 rfl) ?_
  refine rw_v (wr := []) (va_runV (As := []) (rest := []) ⟨hx, hb, hml, hown, hts⟩ (q_X12_next l g cI cJ cB cZ cL m m_a m_thrown m_taped m_at m_token m_place m_value m_word m_bad m_badPlace m_fault m_faultPlace m_willing m_will m_forgot m_isDrawn m_x m_begin m_round m_roundCards m_fate m_any m_bothSend m_meanCards m_bestSum m_fitMany m_fitFirst m_fitSecond m_tape_c H.size hv_m_taped hv_m_at hv_m_will hv_m_isDrawn (by omega)) (cwV 0 hts (goodIn_app (g_4 (List.mem_cons_of_mem _ (List.mem_append_left _ (List.mem_of_getElem? (i := 4) rfl))) (List.mem_cons_of_mem _ (List.mem_append_left _ (List.mem_of_getElem? (i := 5) rfl))) (List.mem_cons_of_mem _ (List.mem_append_left _ (List.mem_of_getElem? (i := 6) rfl))) (List.mem_cons_of_mem _ (List.mem_append_left _ (List.mem_of_getElem? (i := 3) rfl))) (by decide +kernel)) (goodIn_sub (fun _ h => List.mem_cons_of_mem _ (List.mem_append_right _ (List.mem_append_right _ (List.mem_append_left _ h)))) good_v_X12_next)) rfl rfl rfl (by decide +kernel) ⟨Nat.le_of_ble_eq_true rfl, Nat.le_of_ble_eq_true rfl⟩) (pv_RW (q := (RX12, TX12, 56)) (ci := 11) (q0 := 0) (wc := [(m, .inr (11, mG m_a m_thrown m_taped m_at m_token m_place m_value m_word m_bad m_badPlace m_fault m_faultPlace m_willing m_will m_forgot m_isDrawn m_x m_begin m_round m_roundCards m_fate m_any m_bothSend m_meanCards m_bestSum m_fitMany m_fitFirst m_fitSecond)), ((m_a 5), .inl (cB, 1600, .inl m_tape_c))]) hK hP hD [0, 1] (by decide) rfl rfl rfl) rfl rfl hl.1 rfl (lv_room (Nat.le_of_ble_eq_true rfl)) dX12_takes_11 ⟨Nat.le_of_ble_eq_true rfl, Nat.le_of_ble_eq_true rfl⟩) hS hA hP hD [0, 1] [] rfl rfl (by decide) (by decide) (fun u11 H locs hw11 hP hD hS => ?_)
  obtain ⟨n_m_at_11, n_m_token_11, n_m_place_11, n_m_value_11, n_m_word_11⟩ := u11
  have hP : va_P g vwCl [(m, .inr (11, mG m_a m_thrown m_taped n_m_at_11 n_m_token_11 n_m_place_11 n_m_value_11 n_m_word_11 m_bad m_badPlace m_fault m_faultPlace m_willing m_will m_forgot m_isDrawn m_x m_begin m_round m_roundCards m_fate m_any m_bothSend m_meanCards m_bestSum m_fitMany m_fitFirst m_fitSecond)), ((m_a 5), .inl (cB, 1600, .inl m_tape_c))] H := hP
  have hD : va_D A [(m, .inr (11, mG m_a m_thrown m_taped n_m_at_11 n_m_token_11 n_m_place_11 n_m_value_11 n_m_word_11 m_bad m_badPlace m_fault m_faultPlace m_willing m_will m_forgot m_isDrawn m_x m_begin m_round m_roundCards m_fate m_any m_bothSend m_meanCards m_bestSum m_fitMany m_fitFirst m_fitSecond)), ((m_a 5), .inl (cB, 1600, .inl m_tape_c))] := hD
  dsimp only at hw11
  obtain ⟨hw11_0, hw11_1, hw11_2, hw11_3⟩ := hw11
  have hw11_3 : (m_at.toInt ≤ n_m_at_11.toInt ∧ n_m_at_11.toInt ≤ m_taped.toInt ∧ 0 ≤ n_m_token_11.toInt ∧ n_m_token_11.toInt ≤ 4 ∧ (m_at.toInt < n_m_at_11.toInt ∨ (n_m_token_11.toInt = 0 ∧ n_m_at_11.toInt = m_taped.toInt))) := hw11_3
  refine lv_iconst (v := 1) hx hb dX12_takes_14 (by decide) ?_
  subst hQ
  have hP9 := hP.sub (ws' := [(m, .inr (11, mG m_a m_thrown m_taped n_m_at_11 n_m_token_11 n_m_place_11 n_m_value_11 n_m_word_11 m_bad m_badPlace m_fault m_faultPlace m_willing m_will m_forgot m_isDrawn m_x m_begin m_round m_roundCards m_fate m_any m_bothSend m_meanCards m_bestSum m_fitMany m_fitFirst m_fitSecond)), ((m_a 5), .inl (cB, 1600, .inl m_tape_c))]) [0, 1] rfl
  have hD9 := hD.sub (ws' := [(m, .inr (11, mG m_a m_thrown m_taped n_m_at_11 n_m_token_11 n_m_place_11 n_m_value_11 n_m_word_11 m_bad m_badPlace m_fault m_faultPlace m_willing m_will m_forgot m_isDrawn m_x m_begin m_round m_roundCards m_fate m_any m_bothSend m_meanCards m_bestSum m_fitMany m_fitFirst m_fitSecond)), ((m_a 5), .inl (cB, 1600, .inl m_tape_c))]) [0, 1] (by decide) rfl
  exact W.zret (v := 1) hx hb hr rfl (fun t ht hW => ⟨⟨1, (n_m_at_11, n_m_token_11, n_m_place_11, n_m_value_11, n_m_word_11), rfl, ⟨hw11_0, (by have kc0 : (1 : Int32).toInt = 1 := rfl; omega), (show ir (1 : Int32).toInt 0 1 by decide)⟩, ⟨by rw [ht]; exact hP9, va_K.moved hW.alike hK, hD9⟩⟩, hS.F ht⟩) hS.2.2 dX12_takes_15
def v_X12_asks : List Cond := .code yX12_asks cX12_asks 3 none :: (([.methodLink RX12 172 yX12_takes, .instanceMethod yX12_takes, .selects RX12 yX12_takes yX12_takes, .initialized RX12, .methodLink RX12 175 yX12_fails, .instanceMethod yX12_fails, .selects RX12 yX12_fails yX12_fails] : List Cond) ++ (v_X12_takes ++ (v_X12_fails ++ ([] : List Cond))))
theorem good_v_X12_asks : v_X12_asks.all goodWord = true := ga_c (by decide +kernel) (ga_a (by decide +kernel) (ga_a good_v_X12_takes (ga_a good_v_X12_fails rfl)))
set_option maxHeartbeats 4000000 in
set_option maxRecDepth 100000 in
theorem q_X12_asks (l : Launch) (g : va_G) (cI cJ cB cZ cL : ClassId) (p0 : Int64) (m : Nat) (m_a : Nat → Nat) (m_thrown : Int32) (m_taped : Int32) (m_at : Int32) (m_token : Int32) (m_place : Int32) (m_value : Int32) (m_word : Int64) (m_bad : Int32) (m_badPlace : Int32) (m_fault : Int32) (m_faultPlace : Int32) (m_willing : Int32) (m_will : Int32) (m_forgot : Int32) (m_isDrawn : Int32) (m_x : Int64) (m_begin : Int32) (m_round : Int32) (m_roundCards : Int32) (m_fate : Int32) (m_any : Int64) (m_bothSend : Int64) (m_meanCards : Int64) (m_bestSum : Int32) (m_fitMany : Int32) (m_fitFirst : Int64) (m_fitSecond : Int64) (m_tape_c : Nat → Int32) (sz : Nat) (hv_m_taped : ir m_taped.toInt 0 1600) (hv_m_at : ir m_at.toInt 0 1600) (hv_m_will : ir m_will.toInt 0 1) (hv_m_isDrawn : ir m_isDrawn.toInt 0 1) (hx_0 : m_at.toInt ≤ m_taped.toInt) : Met l yX12_asks v_X12_asks ({ frames := 3, cells := 0, slots := 0, locals := 66 }) (va_Pc [.ref m, .long p0] (pRW g (tyT cI cJ cB cZ cL) [(m, .inr (11, mG m_a m_thrown m_taped m_at m_token m_place m_value m_word m_bad m_badPlace m_fault m_faultPlace m_willing m_will m_forgot m_isDrawn m_x m_begin m_round m_roundCards m_fate m_any m_bothSend m_meanCards m_bestSum m_fitMany m_fitFirst m_fitSecond)), ((m_a 5), .inl (cB, 1600, .inl m_tape_c))] sz)) (va_Qv (fun (u : Int32 × Int32 × Int32 × Int32 × Int64 × Int32 × Int32) => match u with | (n_m_at, n_m_token, n_m_place, n_m_value, n_m_word, n_m_bad, n_m_badPlace) => (ir n_m_at.toInt 0 1600) ∧ ((n_m_at.toInt = m_at.toInt ∧ n_m_token.toInt = m_token.toInt) ∨ (m_at.toInt ≤ n_m_at.toInt ∧ n_m_at.toInt ≤ m_taped.toInt ∧ 0 ≤ n_m_token.toInt ∧ n_m_token.toInt ≤ 4 ∧ (m_at.toInt < n_m_at.toInt ∨ (n_m_token.toInt = 0 ∧ n_m_at.toInt = m_taped.toInt))))) (fun (u : Int32 × Int32 × Int32 × Int32 × Int64 × Int32 × Int32) (t : State) => bRW g (tyT cI cJ cB cZ cL) (va_A [(m, .inr (11, mG m_a m_thrown m_taped m_at m_token m_place m_value m_word m_bad m_badPlace m_fault m_faultPlace m_willing m_will m_forgot m_isDrawn m_x m_begin m_round m_roundCards m_fate m_any m_bothSend m_meanCards m_bestSum m_fitMany m_fitFirst m_fitSecond)), ((m_a 5), .inl (cB, 1600, .inl m_tape_c))] sz) (match u with | (n_m_at, n_m_token, n_m_place, n_m_value, n_m_word, n_m_bad, n_m_badPlace) => [(m, .inr (11, mG m_a m_thrown m_taped n_m_at n_m_token n_m_place n_m_value n_m_word n_m_bad n_m_badPlace m_fault m_faultPlace m_willing m_will m_forgot m_isDrawn m_x m_begin m_round m_roundCards m_fate m_any m_bothSend m_meanCards m_bestSum m_fitMany m_fitFirst m_fitSecond)), ((m_a 5), .inl (cB, 1600, .inl m_tape_c))]) t) (va_A [(m, .inr (11, mG m_a m_thrown m_taped m_at m_token m_place m_value m_word m_bad m_badPlace m_fault m_faultPlace m_willing m_will m_forgot m_isDrawn m_x m_begin m_round m_roundCards m_fate m_any m_bothSend m_meanCards m_bestSum m_fitMany m_fitFirst m_fitSecond)), ((m_a 5), .inl (cB, 1600, .inl m_tape_c))] sz)) 0 0 (va_A [(m, .inr (11, mG m_a m_thrown m_taped m_at m_token m_place m_value m_word m_bad m_badPlace m_fault m_faultPlace m_willing m_will m_forgot m_isDrawn m_x m_begin m_round m_roundCards m_fate m_any m_bothSend m_meanCards m_bestSum m_fitMany m_fitFirst m_fitSecond)), ((m_a 5), .inl (cB, 1600, .inl m_tape_c))] sz) := by
  refine Met.ofW (cc := cX12_asks) (maxL := 3) (ret := none) (by decide) rfl ?_
  intro p e s mth args below meth c s₁ B hml hv
  obtain ⟨rfl, hsz, hP, hK, hD0⟩ := hv
  have hx := B.exec
  have hb := B.bytes
  have hr := B.returns
  have hts := atoms_spec (ws := v_X12_asks) B.pre
  have hown : s.vm.findClass RX12 = some mth.cls := findClass_of_methodNamed B.named
  have hlocks := B.notSynchronized
  clear B
  subst hsz
  have hD := hD0.self (sz := s.heap.size)
  generalize hAe : (va_A [(m, .inr (11, mG m_a m_thrown m_taped m_at m_token m_place m_value m_word m_bad m_badPlace m_fault m_faultPlace m_willing m_will m_forgot m_isDrawn m_x m_begin m_round m_roundCards m_fate m_any m_bothSend m_meanCards m_bestSum m_fitMany m_fitFirst m_fitSecond)), ((m_a 5), .inl (cB, 1600, .inl m_tape_c))] s.heap.size) = A at hD ⊢
  have hA : ∀ q : Nat, s.heap.size ≤ q → A q := fun q h => by rw [← hAe]; exact Or.inr h
  have hS : va_S A s.heap s.heap [] := va_S.rf
  have hl := lv_entry ([.ref m, .long p0]) (n := 3) (Nat.le_of_ble_eq_true rfl)
  rw [lg_entry_eq]
  generalize (lg_sl ([.ref m, .long p0]) ++ List.replicate (3 - (lg_sl ([.ref m, .long p0])).length) Slot.unset).toArray = ls at hl ⊢
  generalize ([.ref m, .long p0] : List Value).toArray = av at hts ⊢
  generalize hQ : MQ below _ av s _ _ A = QQ
  have hl : lv_has ls 3 [(0, .ref m), (1, .long p0)] := hl
  have hP : va_P g vwCl [(m, .inr (11, mG m_a m_thrown m_taped m_at m_token m_place m_value m_word m_bad m_badPlace m_fault m_faultPlace m_willing m_will m_forgot m_isDrawn m_x m_begin m_round m_roundCards m_fate m_any m_bothSend m_meanCards m_bestSum m_fitMany m_fitFirst m_fitSecond)), ((m_a 5), .inl (cB, 1600, .inl m_tape_c))] s.heap := hP
  refine lv_aload_n hx hb dX12_asks_0 rfl (lv_at hl 0 rfl) ?_
  refine lv_lload_n hx hb dX12_asks_1 rfl (lv_at hl 1 rfl) ?_
  refine rw_i (wr := []) (va_runV (As := [.long p0]) (rest := []) ⟨hx, hb, hml, hown, hts⟩ (q_X12_takes l g cI cJ cB cZ cL p0 m m_a m_thrown m_taped m_at m_token m_place m_value m_word m_bad m_badPlace m_fault m_faultPlace m_willing m_will m_forgot m_isDrawn m_x m_begin m_round m_roundCards m_fate m_any m_bothSend m_meanCards m_bestSum m_fitMany m_fitFirst m_fitSecond m_tape_c s.heap.size hv_m_taped hv_m_at hv_m_will hv_m_isDrawn (by omega)) (cwV 1 hts (goodIn_app (g_4 (List.mem_cons_of_mem _ (List.mem_append_left _ (List.mem_of_getElem? (i := 0) rfl))) (List.mem_cons_of_mem _ (List.mem_append_left _ (List.mem_of_getElem? (i := 1) rfl))) (List.mem_cons_of_mem _ (List.mem_append_left _ (List.mem_of_getElem? (i := 2) rfl))) (List.mem_cons_of_mem _ (List.mem_append_left _ (List.mem_of_getElem? (i := 3) rfl))) (by decide +kernel)) (goodIn_sub (fun _ h => List.mem_cons_of_mem _ (List.mem_append_right _ (List.mem_append_left _ h))) good_v_X12_takes)) rfl rfl rfl (by decide +kernel) ⟨Nat.le_of_ble_eq_true rfl, Nat.le_of_ble_eq_true rfl⟩) (pv_RW (q := (RX12, TX12, 56)) (ci := 11) (q0 := 0) (wc := [(m, .inr (11, mG m_a m_thrown m_taped m_at m_token m_place m_value m_word m_bad m_badPlace m_fault m_faultPlace m_willing m_will m_forgot m_isDrawn m_x m_begin m_round m_roundCards m_fate m_any m_bothSend m_meanCards m_bestSum m_fitMany m_fitFirst m_fitSecond)), ((m_a 5), .inl (cB, 1600, .inl m_tape_c))]) hK hP hD [0, 1] (by decide) rfl rfl rfl) rfl rfl hl.1 rfl (lv_room (Nat.le_of_ble_eq_true rfl)) dX12_asks_2 ⟨Nat.le_of_ble_eq_true rfl, Nat.le_of_ble_eq_true rfl⟩) hS hA hP hD [0, 1] [] rfl rfl (by decide) (by decide) (fun r2 u2 H locs hw2 hP hD hS => ?_)
  obtain ⟨n_m_at_2, n_m_token_2, n_m_place_2, n_m_value_2, n_m_word_2⟩ := u2
  have hP : va_P g vwCl [(m, .inr (11, mG m_a m_thrown m_taped n_m_at_2 n_m_token_2 n_m_place_2 n_m_value_2 n_m_word_2 m_bad m_badPlace m_fault m_faultPlace m_willing m_will m_forgot m_isDrawn m_x m_begin m_round m_roundCards m_fate m_any m_bothSend m_meanCards m_bestSum m_fitMany m_fitFirst m_fitSecond)), ((m_a 5), .inl (cB, 1600, .inl m_tape_c))] H := hP
  have hD : va_D A [(m, .inr (11, mG m_a m_thrown m_taped n_m_at_2 n_m_token_2 n_m_place_2 n_m_value_2 n_m_word_2 m_bad m_badPlace m_fault m_faultPlace m_willing m_will m_forgot m_isDrawn m_x m_begin m_round m_roundCards m_fate m_any m_bothSend m_meanCards m_bestSum m_fitMany m_fitFirst m_fitSecond)), ((m_a 5), .inl (cB, 1600, .inl m_tape_c))] := hD
  dsimp only at hw2
  obtain ⟨hw2_0, hw2_1, hw2_2⟩ := hw2
  have hw2_1 : (n_m_at_2.toInt = m_at.toInt ∧ n_m_token_2.toInt = m_token.toInt) ∨ (m_at.toInt ≤ n_m_at_2.toInt ∧ n_m_at_2.toInt ≤ m_taped.toInt ∧ 0 ≤ n_m_token_2.toInt ∧ n_m_token_2.toInt ≤ 4 ∧ (m_at.toInt < n_m_at_2.toInt ∨ (n_m_token_2.toInt = 0 ∧ n_m_at_2.toInt = m_taped.toInt))) := hw2_1
  refine lv_if_ne (tgt := 13) hx hb dX12_asks_5 (by decide) (fun c5 => ?_) (fun c5 => ?_)
  · have f5 := (show r2.toInt ≠ 0 from z_ne rfl rfl c5)
    have r5a : ir r2.toInt 1 1 := ir_nel f5 hw2_2 (by decide) (by decide)
    subst hQ
    have hP9 := hP.sub (ws' := [(m, .inr (11, mG m_a m_thrown m_taped n_m_at_2 n_m_token_2 n_m_place_2 n_m_value_2 n_m_word_2 m_bad m_badPlace m_fault m_faultPlace m_willing m_will m_forgot m_isDrawn m_x m_begin m_round m_roundCards m_fate m_any m_bothSend m_meanCards m_bestSum m_fitMany m_fitFirst m_fitSecond)), ((m_a 5), .inl (cB, 1600, .inl m_tape_c))]) [0, 1] rfl
    have hD9 := hD.sub (ws' := [(m, .inr (11, mG m_a m_thrown m_taped n_m_at_2 n_m_token_2 n_m_place_2 n_m_value_2 n_m_word_2 m_bad m_badPlace m_fault m_faultPlace m_willing m_will m_forgot m_isDrawn m_x m_begin m_round m_roundCards m_fate m_any m_bothSend m_meanCards m_bestSum m_fitMany m_fitFirst m_fitSecond)), ((m_a 5), .inl (cB, 1600, .inl m_tape_c))]) [0, 1] (by decide) rfl
    exact W.vret hx hb hr (fun t ht hW => ⟨⟨(n_m_at_2, n_m_token_2, n_m_place_2, n_m_value_2, n_m_word_2, m_bad, m_badPlace), rfl, ⟨hw2_0, (by omega)⟩, ⟨by rw [ht]; exact hP9, va_K.moved hW.alike hK, hD9⟩⟩, hS.F ht⟩) hS.2.2 dX12_asks_13
  have f5 := (show r2.toInt = 0 from z_eq rfl rfl c5)
  have r5a : ir r2.toInt 0 0 := ir_eqa f5 hw2_2 (ir_c 0) (by decide) (by decide)
  refine lv_aload_n hx hb dX12_asks_8 rfl (lv_at hl 0 rfl) ?_
  refine lv_iconst (v := 1) hx hb dX12_asks_9 (by decide) ?_
  refine rw_v (wr := [((m_a 5), .inl (cB, 1600, .inl m_tape_c))]) (va_runV (As := [.int 1]) (rest := []) ⟨hx, hb, hml, hown, hts⟩ (q_X12_fails l g cI cJ cB cZ cL 1 m m_a m_thrown m_taped n_m_at_2 n_m_token_2 n_m_place_2 n_m_value_2 n_m_word_2 m_bad m_badPlace m_fault m_faultPlace m_willing m_will m_forgot m_isDrawn m_x m_begin m_round m_roundCards m_fate m_any m_bothSend m_meanCards m_bestSum m_fitMany m_fitFirst m_fitSecond H.size (by decide) hv_m_taped hw2_0 hv_m_will hv_m_isDrawn) (cwV 1 hts (goodIn_app (g_4 (List.mem_cons_of_mem _ (List.mem_append_left _ (List.mem_of_getElem? (i := 4) rfl))) (List.mem_cons_of_mem _ (List.mem_append_left _ (List.mem_of_getElem? (i := 5) rfl))) (List.mem_cons_of_mem _ (List.mem_append_left _ (List.mem_of_getElem? (i := 6) rfl))) (List.mem_cons_of_mem _ (List.mem_append_left _ (List.mem_of_getElem? (i := 3) rfl))) (by decide +kernel)) (goodIn_sub (fun _ h => List.mem_cons_of_mem _ (List.mem_append_right _ (List.mem_append_right _ (List.mem_append_left _ h)))) good_v_X12_fails)) rfl rfl rfl (by decide +kernel) ⟨Nat.le_of_ble_eq_true rfl, Nat.le_of_ble_eq_true rfl⟩) (pv_RW (q := (RX12, TX12, 56)) (ci := 11) (q0 := 0) (wc := [(m, .inr (11, mG m_a m_thrown m_taped n_m_at_2 n_m_token_2 n_m_place_2 n_m_value_2 n_m_word_2 m_bad m_badPlace m_fault m_faultPlace m_willing m_will m_forgot m_isDrawn m_x m_begin m_round m_roundCards m_fate m_any m_bothSend m_meanCards m_bestSum m_fitMany m_fitFirst m_fitSecond))]) hK hP hD [0] (by decide) rfl rfl rfl) rfl rfl hl.1 rfl (lv_room (Nat.le_of_ble_eq_true rfl)) dX12_asks_10 ⟨Nat.le_of_ble_eq_true rfl, Nat.le_of_ble_eq_true rfl⟩) hS hA hP hD [0] [1] rfl rfl (by decide) (by decide) (fun u10 H locs hw10 hP hD hS => ?_)
  obtain ⟨n_m_bad_10, n_m_badPlace_10⟩ := u10
  have hP : va_P g vwCl [((m_a 5), .inl (cB, 1600, .inl m_tape_c)), (m, .inr (11, mG m_a m_thrown m_taped n_m_at_2 n_m_token_2 n_m_place_2 n_m_value_2 n_m_word_2 n_m_bad_10 n_m_badPlace_10 m_fault m_faultPlace m_willing m_will m_forgot m_isDrawn m_x m_begin m_round m_roundCards m_fate m_any m_bothSend m_meanCards m_bestSum m_fitMany m_fitFirst m_fitSecond))] H := hP
  have hD : va_D A [((m_a 5), .inl (cB, 1600, .inl m_tape_c)), (m, .inr (11, mG m_a m_thrown m_taped n_m_at_2 n_m_token_2 n_m_place_2 n_m_value_2 n_m_word_2 n_m_bad_10 n_m_badPlace_10 m_fault m_faultPlace m_willing m_will m_forgot m_isDrawn m_x m_begin m_round m_roundCards m_fate m_any m_bothSend m_meanCards m_bestSum m_fitMany m_fitFirst m_fitSecond))] := hD
  dsimp only at hw10
  have hw10_0 := hw10
  have hw10_0 : n_m_bad_10.toInt ≠ 0 := hw10_0
  subst hQ
  have hP9 := hP.sub (ws' := [(m, .inr (11, mG m_a m_thrown m_taped n_m_at_2 n_m_token_2 n_m_place_2 n_m_value_2 n_m_word_2 n_m_bad_10 n_m_badPlace_10 m_fault m_faultPlace m_willing m_will m_forgot m_isDrawn m_x m_begin m_round m_roundCards m_fate m_any m_bothSend m_meanCards m_bestSum m_fitMany m_fitFirst m_fitSecond)), ((m_a 5), .inl (cB, 1600, .inl m_tape_c))]) [1, 0] rfl
  have hD9 := hD.sub (ws' := [(m, .inr (11, mG m_a m_thrown m_taped n_m_at_2 n_m_token_2 n_m_place_2 n_m_value_2 n_m_word_2 n_m_bad_10 n_m_badPlace_10 m_fault m_faultPlace m_willing m_will m_forgot m_isDrawn m_x m_begin m_round m_roundCards m_fate m_any m_bothSend m_meanCards m_bestSum m_fitMany m_fitFirst m_fitSecond)), ((m_a 5), .inl (cB, 1600, .inl m_tape_c))]) [1, 0] (by decide) rfl
  exact W.vret hx hb hr (fun t ht hW => ⟨⟨(n_m_at_2, n_m_token_2, n_m_place_2, n_m_value_2, n_m_word_2, n_m_bad_10, n_m_badPlace_10), rfl, ⟨hw2_0, (by omega)⟩, ⟨by rw [ht]; exact hP9, va_K.moved hW.alike hK, hD9⟩⟩, hS.F ht⟩) hS.2.2 dX12_asks_13
