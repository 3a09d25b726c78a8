/-! what two rules do from a state, in whole numbers -/
def nA (a s : Nat) : Nat := a / 2 ^ (s % 4) % 2
def nB (b s : Nat) : Nat := b / 2 ^ (s / 4 % 4) % 2
def sA (a b s : Nat) : Nat := if nA a s = 1 ∨ (16 ≤ a ∧ nB b s = 1) then 1 else 0
def sB (a b s : Nat) : Nat := if nB b s = 1 ∨ (16 ≤ b ∧ nA a s = 1) then 1 else 0
def nx (a b s : Nat) : Nat := (s % 2) * 2 + (s / 4 % 2) * 8 + sB a b s + 4 * sA a b s
def sc (a b s : Nat) : Nat := sA a b s + sB a b s
theorem nA_lt (a s : Nat) : nA a s < 2 := Nat.mod_lt _ (by decide)
theorem nB_lt (a s : Nat) : nB a s < 2 := Nat.mod_lt _ (by decide)
theorem sA_le (a b s : Nat) : sA a b s ≤ 1 := by unfold sA; split <;> omega
theorem sB_le (a b s : Nat) : sB a b s ≤ 1 := by unfold sB; split <;> omega
theorem nx_lt (a b s : Nat) : nx a b s < 16 := by
  have h1 := sA_le a b s
  have h2 := sB_le a b s
  unfold nx
  omega
theorem sc_le (a b s : Nat) : sc a b s ≤ 2 := by
  have h1 := sA_le a b s
  have h2 := sB_le a b s
  unfold sc
  omega
def pt (a b s : Nat) : Nat → Nat
  | 0 => s
  | k + 1 => nx a b (pt a b s k)
theorem pt_lt {a b s : Nat} (h : s < 16) (k : Nat) : pt a b s k < 16 := by
  cases k with
  | zero => exact h
  | succ k => exact nx_lt _ _ _
def FT (a b s j n : Nat) : Prop := j < n ∧ pt a b s j = pt a b s n ∧ ∀ i k, i < k → k < n → pt a b s i ≠ pt a b s k
theorem FT_one {a b s j n j2 n2 : Nat} (h1 : FT a b s j n) (h2 : FT a b s j2 n2) : j = j2 ∧ n = n2 := by
  obtain ⟨a1, b1, c1⟩ := h1
  obtain ⟨a2, b2, c2⟩ := h2
  have hn : n = n2 := by
    rcases Nat.lt_trichotomy n n2 with h | h | h
    · exact absurd b1 (c2 j n a1 h)
    · exact h
    · exact absurd b2 (c1 j2 n2 a2 h)
  subst hn
  refine ⟨?_, rfl⟩
  rcases Nat.lt_trichotomy j j2 with h | h | h
  · exact absurd (b1.trans b2.symm) (c1 j j2 h a2)
  · exact h
  · exact absurd (b2.trans b1.symm) (c1 j2 j h a1)
noncomputable def fP (a b s : Nat) : Nat × Nat := Classical.epsilon (fun q : Nat × Nat => FT a b s q.1 q.2)
noncomputable def fJ (a b s : Nat) : Nat := (fP a b s).1
noncomputable def fN (a b s : Nat) : Nat := (fP a b s).2
theorem fP_eq {a b s j n : Nat} (h : FT a b s j n) : fJ a b s = j ∧ fN a b s = n := FT_one (Classical.epsilon_spec (p := fun q : Nat × Nat => FT a b s q.1 q.2) ⟨(j, n), h⟩) h
def sm (f : Nat → Nat) : Nat → Nat
  | 0 => 0
  | n + 1 => sm f n + f n
theorem sm_le {f : Nat → Nat} {c : Nat} (h : ∀ k, f k ≤ c) : ∀ n, sm f n ≤ c * n
  | 0 => Nat.zero_le _
  | n + 1 => by
    have h1 := sm_le h n
    have h2 := h n
    rw [Nat.mul_succ]
    show sm f n + f n ≤ _
    omega
theorem sm_congr {f g : Nat → Nat} (h : ∀ k, f k = g k) : ∀ n, sm f n = sm g n
  | 0 => rfl
  | n + 1 => by show sm f n + f n = sm g n + g n; rw [sm_congr h n, h n]
noncomputable def fL (a b s : Nat) : Nat := fN a b s - fJ a b s
noncomputable def fC (a b s : Nat) : Nat := sm (fun t => sc a b (pt a b s (fN a b s + t))) (fL a b s)
def kd (c l : Nat) : Nat := if c = 0 then 0 else if c = 2 * l then 1 else 2
noncomputable def fK (a b s : Nat) : Nat := kd (fC a b s) (fL a b s)
theorem kd_le (c l : Nat) : kd c l ≤ 2 := by
  unfold kd
  split
  · omega
  · split <;> omega
theorem pg_holes : ∀ (m n : Nat) (f : Nat → Nat), (∀ i, i < n → f i < m) → (∀ i j, i < j → j < n → f i ≠ f j) → n ≤ m := by
  intro m
  induction m with
  | zero =>
    intro n f h1 _
    rcases Nat.eq_zero_or_pos n with h | h
    · omega
    · exact absurd (h1 0 h) (Nat.not_lt_zero _)
  | succ m ih =>
    intro n f h1 h2
    by_cases hx : ∃ i, i < n ∧ f i = m
    · obtain ⟨a, ha, hfa⟩ := hx
      have hg := ih (n - 1) (fun i => if i < a then f i else f (i + 1)) (by
        intro i hi
        by_cases q : i < a
        · simp only [if_pos q]
          have b1 := h1 i (by omega)
          have b2 := h2 i a q ha
          omega
        · simp only [if_neg q]
          have b1 := h1 (i + 1) (by omega)
          have b2 := h2 a (i + 1) (by omega) (by omega)
          omega) (by
        intro i j hij hj
        by_cases q : i < a
        · by_cases r : j < a
          · simp only [if_pos q, if_pos r]
            exact h2 i j hij (by omega)
          · simp only [if_pos q, if_neg r]
            exact h2 i (j + 1) (by omega) (by omega)
        · have r : ¬ j < a := by omega
          simp only [if_neg q, if_neg r]
          exact h2 (i + 1) (j + 1) (by omega) (by omega))
      omega
    · have hg := ih n f (fun i hi => by
        have b1 := h1 i hi
        have b2 : f i ≠ m := fun e => hx ⟨i, hi, e⟩
        omega) h2
      omega
/-- what the row of years says behind k of them -/
def CM (a b s k : Nat) (f : Nat → Int32) : Prop := ∀ t, t < 16 → (∃ j, j < k ∧ pt a b s j = t ∧ f t = nI j) ∨ ((∀ j, j < k → pt a b s j ≠ t) ∧ f t = (-1))
def DS (a b s k : Nat) : Prop := ∀ i j, i < j → j < k → pt a b s i ≠ pt a b s j
theorem CM_0 {a b s : Nat} {f : Nat → Int32} (h : ∀ t, t < 16 → f t = (-1)) : CM a b s 0 f := fun t ht => Or.inr ⟨fun j hj => absurd hj (Nat.not_lt_zero _), h t ht⟩
theorem DS_0 {a b s : Nat} : DS a b s 0 := fun _ _ _ hj => absurd hj (Nat.not_lt_zero _)
theorem DS_s {a b s k : Nat} (h : DS a b s k) (hn : ∀ j, j < k → pt a b s j ≠ pt a b s k) : DS a b s (k + 1) := fun i j hij hj => by
  rcases Nat.lt_or_ge j k with q | q
  · exact h i j hij q
  · have e : j = k := by omega
    subst e
    exact hn i hij
theorem DS_room {a b s k : Nat} (hs : s < 16) (h : DS a b s k) (hn : ∀ j, j < k → pt a b s j ≠ pt a b s k) : k < 16 := by
  have := pg_holes 16 (k + 1) (pt a b s) (fun i _ => pt_lt hs i) (DS_s h hn)
  omega
theorem CM_s {a b s k : Nat} {f g : Nat → Int32} (h : CM a b s k f) (hn : ∀ j, j < k → pt a b s j ≠ pt a b s k) (hg : ∀ t, g t = if t = pt a b s k then nI k else f t) : CM a b s (k + 1) g := fun t ht => by
  rw [hg t]
  by_cases e : t = pt a b s k
  · rw [if_pos e]
    exact Or.inl ⟨k, Nat.lt_succ_self _, e.symm, rfl⟩
  · rw [if_neg e]
    rcases h t ht with ⟨j, h1, h2, h3⟩ | ⟨h1, h2⟩
    · exact Or.inl ⟨j, by omega, h2, h3⟩
    · refine Or.inr ⟨fun j hj => ?_, h2⟩
      rcases Nat.lt_or_ge j k with q | q
      · exact h1 j q
      · have e2 : j = k := by omega
        subst e2
        exact fun z => e z.symm
/-- one who sent none and none: the class's own way -/
def Yfirsts (x y z : Int32) : Int32 := ((x >>> ((z &&& 3) &&& (31 : Int32))) &&& 1) ||| (((y >>> (((z >>> (2 &&& (31 : Int32))) &&& 3) &&& (31 : Int32))) &&& 1) <<< (1 &&& (31 : Int32)))
def Yreturning (x y : Int32) : Int32 := ((x >>> (4 &&& (31 : Int32))) &&& 1) ||| (((y >>> (4 &&& (31 : Int32))) &&& 1) <<< (1 &&& (31 : Int32)))
def Ybacks (x y z : Int32) : Int32 := ((x ^^^ (-1)) &&& y) &&& ((((x &&& z) &&& 1) <<< (1 &&& (31 : Int32))) ||| ((x &&& z) >>> (1 &&& (31 : Int32))))
def Yswapped (x : Int32) : Int32 := ((x &&& 1) <<< (1 &&& (31 : Int32))) ||| ((x >>> (1 &&& (31 : Int32))) &&& 1)
def Yafter (x y : Int32) : Int32 := (((x &&& 5) <<< (1 &&& (31 : Int32))) ||| (y &&& 1)) ||| ((y &&& 2) <<< (1 &&& (31 : Int32)))
def Fsent (x y z w : Int32) : Int32 := Yfirsts x y z ||| Ybacks (Yfirsts x y z) (Yreturning x y) w
def Fnext (x y z w : Int32) : Int32 := Yafter z (Yswapped (Fsent x y z w &&& w))
theorem e_A : ∀ a : Fin 32, ∀ s : Fin 16, (nI a.val >>> ((nI s.val &&& 3) &&& (31 : Int32))) &&& 1 = nI (nA a.val s.val) := by decide +kernel
theorem e_B : ∀ a : Fin 32, ∀ s : Fin 16, (nI a.val >>> (((nI s.val >>> (2 &&& (31 : Int32))) &&& 3) &&& (31 : Int32))) &&& 1 = nI (nB a.val s.val) := by decide +kernel
theorem e_R : ∀ a : Fin 32, (nI a.val >>> (4 &&& (31 : Int32))) &&& 1 = nI (a.val / 16) := by decide +kernel
theorem e_S : ∀ x : Fin 2, ∀ y : Fin 2, ∀ ra : Fin 2, ∀ rb : Fin 2, (nI x.val ||| (nI y.val <<< (1 &&& (31 : Int32)))) ||| Ybacks (nI x.val ||| (nI y.val <<< (1 &&& (31 : Int32)))) (nI ra.val ||| (nI rb.val <<< (1 &&& (31 : Int32)))) 3 = nI ((if x.val = 1 ∨ (ra.val = 1 ∧ y.val = 1) then 1 else 0) + 2 * (if y.val = 1 ∨ (rb.val = 1 ∧ x.val = 1) then 1 else 0)) := by decide +kernel
theorem e_N : ∀ s : Fin 16, ∀ u : Fin 2, ∀ v : Fin 2, Yafter (nI s.val) (Yswapped (nI (u.val + 2 * v.val) &&& 3)) = nI ((s.val % 2) * 2 + (s.val / 4 % 2) * 8 + v.val + 4 * u.val) := by decide +kernel
theorem Fsent_n {a b s : Nat} (ha : a < 32) (hb : b < 32) (hs : s < 16) : Fsent (nI a) (nI b) (nI s) 3 = nI (sA a b s + 2 * sB a b s) := by
  have h1 := e_A ⟨a, ha⟩ ⟨s, hs⟩
  have h2 := e_B ⟨b, hb⟩ ⟨s, hs⟩
  have h3 := e_R ⟨a, ha⟩
  have h4 := e_R ⟨b, hb⟩
  dsimp only at h1 h2 h3 h4
  have h5 := e_S ⟨nA a s, nA_lt a s⟩ ⟨nB b s, nB_lt b s⟩ ⟨a / 16, by omega⟩ ⟨b / 16, by omega⟩
  dsimp only at h5
  unfold Fsent Yfirsts Yreturning
  rw [h1, h2, h3, h4, h5]
  congr 1
  have ea : (a / 16 = 1) ↔ 16 ≤ a := by omega
  have eb : (b / 16 = 1) ↔ 16 ≤ b := by omega
  unfold sA sB
  simp only [ea, eb]
theorem Fnext_n {a b s : Nat} (ha : a < 32) (hb : b < 32) (hs : s < 16) : Fnext (nI a) (nI b) (nI s) 3 = nI (nx a b s) := by
  have h := e_N ⟨s, hs⟩ ⟨sA a b s, Nat.lt_succ_of_le (sA_le a b s)⟩ ⟨sB a b s, Nat.lt_succ_of_le (sB_le a b s)⟩
  dsimp only at h
  unfold Fnext
  rw [Fsent_n ha hb hs]
  exact h
/-- the two sides changed -/
def sw (s : Nat) : Nat := s / 4 % 4 + 4 * (s % 4)
theorem sw_1 : ∀ s : Fin 16, (s.val / 4 % 4 + 4 * (s.val % 4)) / 4 % 4 = s.val % 4 := by decide
theorem sw_2 : ∀ s : Fin 16, sw (sw s.val) = s.val := by decide
theorem sw_3 : ∀ s : Fin 16, ∀ u : Fin 2, ∀ v : Fin 2, sw s.val % 2 * 2 + sw s.val / 4 % 2 * 8 + u.val + 4 * v.val = sw (s.val % 2 * 2 + s.val / 4 % 2 * 8 + v.val + 4 * u.val) := by decide
theorem sw_A (b s : Nat) (hs : s < 16) : nA b (sw s) = nB b s := by
  unfold nA nB sw
  have : (s / 4 % 4 + 4 * (s % 4)) % 4 = s / 4 % 4 := by omega
  rw [this]
theorem sw_B (a s : Nat) (hs : s < 16) : nB a (sw s) = nA a s := by
  unfold nA nB sw
  have : (s / 4 % 4 + 4 * (s % 4)) / 4 % 4 = s % 4 := sw_1 ⟨s, hs⟩
  rw [this]
theorem sw_sA (a b s : Nat) (hs : s < 16) : sA b a (sw s) = sB a b s := by
  unfold sA sB
  rw [sw_A b s hs, sw_B a s hs]
theorem sw_sB (a b s : Nat) (hs : s < 16) : sB b a (sw s) = sA a b s := by
  unfold sA sB
  rw [sw_A b s hs, sw_B a s hs]
theorem sw_lt {s : Nat} (_ : s < 16) : sw s < 16 := by unfold sw; omega
theorem sw_nx (a b s : Nat) (hs : s < 16) : nx b a (sw s) = sw (nx a b s) := by
  unfold nx
  rw [sw_sA a b s hs, sw_sB a b s hs]
  exact sw_3 ⟨s, hs⟩ ⟨sA a b s, Nat.lt_succ_of_le (sA_le a b s)⟩ ⟨sB a b s, Nat.lt_succ_of_le (sB_le a b s)⟩
theorem sw_inj {s t : Nat} (hs : s < 16) (ht : t < 16) (h : sw s = sw t) : s = t := by unfold sw at h; omega
theorem sw_sw {s : Nat} (hs : s < 16) : sw (sw s) = s := sw_2 ⟨s, hs⟩
theorem sw_pt {a b s : Nat} (hs : s < 16) : ∀ k, pt b a (sw s) k = sw (pt a b s k)
  | 0 => rfl
  | k + 1 => by
    show nx b a (pt b a (sw s) k) = sw (nx a b (pt a b s k))
    rw [sw_pt hs k, sw_nx a b _ (pt_lt hs k)]
theorem sw_FT {a b s j n : Nat} (hs : s < 16) (h : FT a b s j n) : FT b a (sw s) j n := by
  obtain ⟨h1, h2, h3⟩ := h
  refine ⟨h1, by rw [sw_pt hs, sw_pt hs, h2], fun i k hik hk e => ?_⟩
  rw [sw_pt hs, sw_pt hs] at e
  exact h3 i k hik hk (sw_inj (pt_lt hs i) (pt_lt hs k) e)
theorem sw_sc (a b s : Nat) (hs : s < 16) : sc b a (sw s) = sc a b s := by
  unfold sc
  rw [sw_sA a b s hs, sw_sB a b s hs]
  omega
theorem FT_is {a b s : Nat} (hs : s < 16) : ∃ j n, FT a b s j n ∧ n ≤ 16 := by
  have key : ∀ m, m ≤ 17 → DS a b s m ∨ ∃ j n, FT a b s j n ∧ n < m := by
    intro m
    induction m with
    | zero => exact fun _ => Or.inl DS_0
    | succ m ih =>
      intro hm
      rcases ih (by omega) with h | ⟨j, n, h, hn⟩
      · by_cases hx : ∃ j, j < m ∧ pt a b s j = pt a b s m
        · obtain ⟨j, hj, e⟩ := hx
          exact Or.inr ⟨j, m, ⟨hj, e, h⟩, Nat.lt_succ_self _⟩
        · exact Or.inl (DS_s h (fun j hj e => hx ⟨j, hj, e⟩))
      · exact Or.inr ⟨j, n, h, by omega⟩
  rcases key 17 (Nat.le_refl _) with h | ⟨j, n, h, hn⟩
  · have := pg_holes 16 17 (pt a b s) (fun i _ => pt_lt hs i) h
    omega
  · exact ⟨j, n, h, by omega⟩
theorem sw_fK {a b s : Nat} (hs : s < 16) : fK b a (sw s) = fK a b s := by
  obtain ⟨j, n, h, -⟩ := FT_is (a := a) (b := b) hs
  obtain ⟨h1, h2⟩ := fP_eq h
  obtain ⟨h3, h4⟩ := fP_eq (sw_FT hs h)
  have hl : fL b a (sw s) = fL a b s := by unfold fL; rw [h1, h2, h3, h4]
  have hc : fC b a (sw s) = fC a b s := by
    unfold fC
    rw [hl, h2, h4]
    exact sm_congr (fun k => by rw [sw_pt hs, sw_sc a b _ (pt_lt hs _)]) _
  unfold fK
  rw [hl, hc]
theorem fL_eq {a b s j n : Nat} (h : FT a b s j n) : fL a b s = n - j := by
  obtain ⟨h1, h2⟩ := fP_eq h
  unfold fL
  rw [h1, h2]
theorem fC_eq {a b s j n : Nat} (h : FT a b s j n) : fC a b s = sm (fun t => sc a b (pt a b s (n + t))) (n - j) := by
  obtain ⟨h1, h2⟩ := fP_eq h
  unfold fC
  rw [fL_eq h, h2]
theorem fL_le {a b s : Nat} (hs : s < 16) : 1 ≤ fL a b s ∧ fL a b s ≤ 16 := by
  obtain ⟨j, n, h, hn⟩ := FT_is (a := a) (b := b) hs
  rw [fL_eq h]
  have := h.1
  omega
theorem fC_le {a b s : Nat} (hs : s < 16) : fC a b s ≤ 32 := by
  have h1 := fL_le (a := a) (b := b) hs
  have h2 := sm_le (f := fun t => sc a b (pt a b s (fN a b s + t))) (c := 2) (fun k => sc_le _ _ _) (fL a b s)
  unfold fC
  omega
theorem fJ_le {a b s : Nat} (hs : s < 16) : fJ a b s ≤ 15 := by
  obtain ⟨j, n, h, hn⟩ := FT_is (a := a) (b := b) hs
  rw [(fP_eq h).1]
  have := h.1
  omega
theorem fK_le (a b s : Nat) : fK a b s ≤ 2 := kd_le _ _
/-- how many, the most -/
def ct (p : Nat → Bool) : Nat → Nat
  | 0 => 0
  | n + 1 => ct p n + (if p n then 1 else 0)
theorem ct_le (p : Nat → Bool) : ∀ n, ct p n ≤ n
  | 0 => Nat.le_refl _
  | n + 1 => by
    have h := ct_le p n
    show ct p n + (if p n then 1 else 0) ≤ n + 1
    split <;> omega
theorem ct_congr {p q : Nat → Bool} : ∀ {n : Nat}, (∀ k, k < n → p k = q k) → ct p n = ct q n
  | 0, _ => rfl
  | n + 1, h => by
    show ct p n + (if p n then 1 else 0) = ct q n + (if q n then 1 else 0)
    rw [ct_congr (fun k hk => h k (by omega)), h n (by omega)]
def mx (f : Nat → Nat) : Nat → Nat
  | 0 => 0
  | n + 1 => max (mx f n) (f n)
theorem mx_le {f : Nat → Nat} {c : Nat} : ∀ {n : Nat}, (∀ k, k < n → f k ≤ c) → mx f n ≤ c
  | 0, _ => Nat.zero_le _
  | n + 1, h => Nat.max_le.mpr ⟨mx_le (fun k hk => h k (by omega)), h n (by omega)⟩
/-- a pair of such rules dies from some state -/
def dy (a b : Nat) : Prop := ∃ s, s < 16 ∧ fK a b s = 0
theorem dy_sw (a b : Nat) : dy a b ↔ dy b a := ⟨fun ⟨s, hs, h⟩ => ⟨sw s, sw_lt hs, by rw [sw_fK hs]; exact h⟩, fun ⟨s, hs, h⟩ => ⟨sw s, sw_lt hs, by rw [sw_fK hs]; exact h⟩⟩
