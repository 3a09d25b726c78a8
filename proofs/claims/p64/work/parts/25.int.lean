/-! intervals of whole numbers -/
abbrev ir (z a b : Int) : Prop := a ≤ z ∧ z ≤ b
def ar (f : Nat → Int32) (n : Nat) (a b : Int) : Prop := ∀ k, k < n → ir (f k).toInt a b
theorem rg_all (x : Int32) : ir x.toInt (-2147483648) 2147483647 := by
  have h1 := Int32.le_toInt x
  have h2 := Int32.toInt_lt x
  exact ⟨by omega, by omega⟩
theorem rl_all (x : Int64) : ir x.toInt (-9223372036854775808) 9223372036854775807 := by
  have h1 := Int64.le_toInt x
  have h2 := Int64.toInt_lt x
  exact ⟨by omega, by omega⟩
theorem gb_mod {z : Int} (h1 : -2147483648 ≤ z) (h2 : z < 2147483648) : z.bmod (2 ^ 32) = z := by
  rw [Int.bmod_eq_of_le (by omega) (by omega)]
theorem gb_modL {z : Int} (h1 : -9223372036854775808 ≤ z) (h2 : z < 9223372036854775808) : z.bmod (2 ^ 64) = z := by
  rw [Int.bmod_eq_of_le (by omega) (by omega)]
theorem ir_w {z a b c d : Int} (h : ir z a b) (h1 : c ≤ a) (h2 : b ≤ d) : ir z c d := ⟨Int.le_trans h1 h.1, Int.le_trans h.2 h2⟩
theorem ir_c (c : Int) : ir c c c := ⟨Int.le_refl _, Int.le_refl _⟩
theorem ir_e {x : Int64} {z a b : Int} (e : x.toInt = z) (h : ir z a b) : ir x.toInt a b := by rw [e]; exact h
theorem ar_w {f : Nat → Int32} {n : Nat} {a b c d : Int} (h : ar f n a b) (h1 : c ≤ a) (h2 : b ≤ d) : ar f n c d := fun k hk => ir_w (h k hk) h1 h2
theorem ad_z {x y : Int32} {a b l h l2 h2 : Int} (hx : x.toInt = a) (hy : y.toInt = b) (ha : ir a l h) (hb : ir b l2 h2) (h1 : -2147483648 ≤ l + l2) (h3 : h + h2 ≤ 2147483647) : (x + y).toInt = a + b := by
  rw [Int32.toInt_add, hx, hy, gb_mod (by omega) (by omega)]
theorem su_z {x y : Int32} {a b l h l2 h2 : Int} (hx : x.toInt = a) (hy : y.toInt = b) (ha : ir a l h) (hb : ir b l2 h2) (h1 : -2147483648 ≤ l - h2) (h3 : h - l2 ≤ 2147483647) : (x - y).toInt = a - b := by
  rw [Int32.toInt_sub, hx, hy, gb_mod (by omega) (by omega)]
theorem mu_lo {a b l l2 : Int} (h0 : 0 ≤ l) (h02 : 0 ≤ l2) (ha : l ≤ a) (hb : l2 ≤ b) : l * l2 ≤ a * b := Int.mul_le_mul ha hb h02 (Int.le_trans h0 ha)
theorem mu_hi {a b h h2 : Int} (h0 : 0 ≤ a) (h02 : 0 ≤ b) (ha : a ≤ h) (hb : b ≤ h2) : a * b ≤ h * h2 := Int.mul_le_mul ha hb h02 (Int.le_trans h0 ha)
theorem mu_z {x y : Int32} {a b l h l2 h2 : Int} (hx : x.toInt = a) (hy : y.toInt = b) (ha : ir a l h) (hb : ir b l2 h2) (h0 : 0 ≤ l) (h02 : 0 ≤ l2) (h3 : h * h2 ≤ 2147483647) : (x * y).toInt = a * b := by
  have q1 := mu_lo (Int.le_refl 0) (Int.le_refl 0) (Int.le_trans h0 ha.1) (Int.le_trans h02 hb.1)
  have q2 := mu_hi (Int.le_trans h0 ha.1) (Int.le_trans h02 hb.1) ha.2 hb.2
  rw [Int32.toInt_mul, hx, hy, gb_mod (by omega) (by omega)]
theorem ad_r {y a b l h l2 h2 lo hi : Int} (q : y = a + b) (ha : ir a l h) (hb : ir b l2 h2) (h1 : lo ≤ l + l2) (h3 : h + h2 ≤ hi) : ir y lo hi := ⟨by omega, by omega⟩
theorem su_r {y a b l h l2 h2 lo hi : Int} (q : y = a - b) (ha : ir a l h) (hb : ir b l2 h2) (h1 : lo ≤ l - h2) (h3 : h - l2 ≤ hi) : ir y lo hi := ⟨by omega, by omega⟩
theorem mu_r {y a b l h l2 h2 lo hi : Int} (q : y = a * b) (ha : ir a l h) (hb : ir b l2 h2) (h0 : 0 ≤ l) (h02 : 0 ≤ l2) (h1 : lo ≤ l * l2) (h3 : h * h2 ≤ hi) : ir y lo hi := by
  have q1 := mu_lo h0 h02 ha.1 hb.1
  have q2 := mu_hi (Int.le_trans h0 ha.1) (Int.le_trans h02 hb.1) ha.2 hb.2
  exact ⟨by omega, by omega⟩
theorem lad_z {x y : Int64} {a b l h l2 h2 : Int} (hx : x.toInt = a) (hy : y.toInt = b) (ha : ir a l h) (hb : ir b l2 h2) (h1 : -9223372036854775808 ≤ l + l2) (h3 : h + h2 ≤ 9223372036854775807) : (x + y).toInt = a + b := by
  rw [Int64.toInt_add, hx, hy, gb_modL (by omega) (by omega)]
/-! ints that are not below 0 as whole numbers -/
theorem nat_i {x : Int32} {a l h : Int} (hx : x.toInt = a) (ha : ir a l h) (h0 : 0 ≤ l) : ∃ j : Nat, (j : Int) = a ∧ j < 2 ^ 31 ∧ x = nI j := by
  have hn : ¬ x < 0 := fun q => by
    have := Int32.lt_iff_toInt_lt.mp q
    have e : (0 : Int32).toInt = 0 := rfl
    omega
  obtain ⟨j, hj, rfl⟩ := nI_of hn
  exact ⟨j, by rw [← hx, nI_toInt hj], hj, rfl⟩
theorem any_i (x : Int32) : ∃ j : Nat, j < 2 ^ 32 ∧ x = nI j := ⟨x.toBitVec.toNat, x.toBitVec.isLt, Int32.toBitVec_inj.mp (by
  show x.toBitVec = BitVec.ofNat 32 x.toBitVec.toNat
  rw [BitVec.ofNat_toNat, BitVec.setWidth_eq])⟩
theorem nI_bv (n : Nat) : (nI n).toBitVec = BitVec.ofNat 32 n := rfl
theorem nI_and (a b : Nat) : nI a &&& nI b = nI (a &&& b) := Int32.toBitVec_inj.mp (by rw [Int32.toBitVec_and, nI_bv, nI_bv, nI_bv, BitVec.ofNat_and])
theorem nI_or (a b : Nat) : nI a ||| nI b = nI (a ||| b) := Int32.toBitVec_inj.mp (by rw [Int32.toBitVec_or, nI_bv, nI_bv, nI_bv, BitVec.ofNat_or])
theorem nI_xor (a b : Nat) : nI a ^^^ nI b = nI (a ^^^ b) := Int32.toBitVec_inj.mp (by rw [Int32.toBitVec_xor, nI_bv, nI_bv, nI_bv, BitVec.ofNat_xor])
theorem an_y {x y : Int32} {b l h : Int} (hy : y.toInt = b) (hb : ir b l h) (h0 : 0 ≤ l) : ir (x &&& y).toInt 0 h := by
  obtain ⟨j, e, hj, rfl⟩ := nat_i hy hb h0
  obtain ⟨k, hk, rfl⟩ := any_i x
  have q : k &&& j ≤ j := Nat.and_le_right
  rw [nI_and, nI_toInt (by omega)]
  exact ⟨by omega, by omega⟩
theorem an_x {x y : Int32} {b l h : Int} (hy : x.toInt = b) (hb : ir b l h) (h0 : 0 ≤ l) : ir (x &&& y).toInt 0 h := by
  obtain ⟨j, e, hj, rfl⟩ := nat_i hy hb h0
  obtain ⟨k, hk, rfl⟩ := any_i y
  have q : j &&& k ≤ j := Nat.and_le_left
  rw [nI_and, nI_toInt (by omega)]
  exact ⟨by omega, by omega⟩
theorem or_r (k : Nat) {x y : Int32} {a b l h l2 h2 hi : Int} (hx : x.toInt = a) (hy : y.toInt = b) (ha : ir a l h) (hb : ir b l2 h2) (h0 : 0 ≤ l) (h02 : 0 ≤ l2) (h3 : h < ((2 ^ k : Nat) : Int)) (h4 : h2 < ((2 ^ k : Nat) : Int)) (h5 : k ≤ 30 ∧ ((2 ^ k : Nat) : Int) - 1 ≤ hi) : ir (x ||| y).toInt 0 hi := by
  obtain ⟨i, e, hi1, rfl⟩ := nat_i hx ha h0
  obtain ⟨j, e2, hj, rfl⟩ := nat_i hy hb h02
  have q : i ||| j < 2 ^ k := Nat.or_lt_two_pow (by omega) (by omega)
  have q2 : 2 ^ k ≤ 2 ^ 30 := Nat.pow_le_pow_right (by decide) h5.1
  rw [nI_or, nI_toInt (by omega)]
  exact ⟨by omega, by omega⟩
theorem xo_r (k : Nat) {x y : Int32} {a b l h l2 h2 hi : Int} (hx : x.toInt = a) (hy : y.toInt = b) (ha : ir a l h) (hb : ir b l2 h2) (h0 : 0 ≤ l) (h02 : 0 ≤ l2) (h3 : h < ((2 ^ k : Nat) : Int)) (h4 : h2 < ((2 ^ k : Nat) : Int)) (h5 : k ≤ 30 ∧ ((2 ^ k : Nat) : Int) - 1 ≤ hi) : ir (x ^^^ y).toInt 0 hi := by
  obtain ⟨i, e, hi1, rfl⟩ := nat_i hx ha h0
  obtain ⟨j, e2, hj, rfl⟩ := nat_i hy hb h02
  have q : i ^^^ j < 2 ^ k := Nat.xor_lt_two_pow (by omega) (by omega)
  have q2 : 2 ^ k ≤ 2 ^ 30 := Nat.pow_le_pow_right (by decide) h5.1
  rw [nI_xor, nI_toInt (by omega)]
  exact ⟨by omega, by omega⟩
theorem sl_r (k : Nat) {x s : Int32} {a l h lo hi : Int} (hx : x.toInt = a) (ha : ir a l h) (hs : (s.toBitVec.smod 32).toNat = k) (h0 : 0 ≤ l) (h3 : h * ((2 ^ k : Nat) : Int) ≤ 2147483647) (h1 : lo ≤ l * ((2 ^ k : Nat) : Int)) (h2 : h * ((2 ^ k : Nat) : Int) ≤ hi) : ir (x <<< s).toInt lo hi := by
  obtain ⟨i, e, hi1, rfl⟩ := nat_i hx ha h0
  have q1 : ((i * 2 ^ k : Nat) : Int) = a * ((2 ^ k : Nat) : Int) := by rw [Int.natCast_mul, e]
  have p0 : (0 : Int) ≤ ((2 ^ k : Nat) : Int) := Int.natCast_nonneg _
  have q2 : a * ((2 ^ k : Nat) : Int) ≤ h * ((2 ^ k : Nat) : Int) := Int.mul_le_mul_of_nonneg_right ha.2 p0
  have q3 : l * ((2 ^ k : Nat) : Int) ≤ a * ((2 ^ k : Nat) : Int) := Int.mul_le_mul_of_nonneg_right ha.1 p0
  rw [pk_shlN s k hs (by omega), nI_toInt (by omega)]
  exact ⟨by omega, by omega⟩
theorem sr_r (k : Nat) {x s : Int32} {a l h lo hi : Int} (hx : x.toInt = a) (ha : ir a l h) (hs : (s.toBitVec.smod 32).toNat = k) (h0 : 0 ≤ l) (h1 : lo ≤ l / ((2 ^ k : Nat) : Int)) (h2 : h / ((2 ^ k : Nat) : Int) ≤ hi) : ir (x >>> s).toInt lo hi := by
  obtain ⟨i, e, hi1, rfl⟩ := nat_i hx ha h0
  have p0 : (0 : Int) < ((2 ^ k : Nat) : Int) := by
    have := Nat.two_pow_pos k
    omega
  have q : i / 2 ^ k ≤ i := Nat.div_le_self _ _
  have q1 : ((i / 2 ^ k : Nat) : Int) = a / ((2 ^ k : Nat) : Int) := by rw [Int.natCast_ediv, e]
  have q2 : a / ((2 ^ k : Nat) : Int) ≤ h / ((2 ^ k : Nat) : Int) := Int.ediv_le_ediv p0 ha.2
  have q3 : l / ((2 ^ k : Nat) : Int) ≤ a / ((2 ^ k : Nat) : Int) := Int.ediv_le_ediv p0 ha.1
  rw [pk_shrN hi1 s k hs, nI_toInt (by omega)]
  exact ⟨by omega, by omega⟩
theorem s1_t : ∀ n, n < 30 → (1 : Int32) <<< (nI n &&& 31) = nI (2 ^ n) := by decide +kernel
theorem s1_r (k : Nat) {y : Int32} {b l h hi : Int} (hy : y.toInt = b) (hb : ir b l h) (h0 : 0 ≤ l) (h1 : h ≤ (k : Int) ∧ k ≤ 29 ∧ ((2 ^ k : Nat) : Int) ≤ hi) : ir ((1 : Int32) <<< (y &&& 31)).toInt 1 hi := by
  obtain ⟨j, e, hj, rfl⟩ := nat_i hy hb h0
  have hjk : j ≤ k := by omega
  have q : 2 ^ j ≤ 2 ^ k := Nat.pow_le_pow_right (by decide) hjk
  have q2 : 2 ^ k ≤ 2 ^ 29 := Nat.pow_le_pow_right (by decide) h1.2.1
  have q3 := Nat.two_pow_pos j
  rw [s1_t j (by omega), nI_toInt (by omega)]
  exact ⟨by omega, by omega⟩
theorem nat_l {x : Int64} {h : Int} (hx : 0 ≤ x.toInt ∧ x.toInt ≤ h) : ∃ j : Nat, (j : Int) = x.toInt ∧ j < 2 ^ 63 ∧ x = lN j := by
  have hn : ¬ x < 0 := fun q => by
    have := Int64.lt_iff_toInt_lt.mp q
    have e : (0 : Int64).toInt = 0 := rfl
    omega
  obtain ⟨j, hj, rfl⟩ := pk_lOf hn
  exact ⟨j, (pk_lT hj).symm, hj, rfl⟩
theorem any_l (x : Int64) : ∃ j : Nat, j < 2 ^ 64 ∧ x = lN j := ⟨x.toBitVec.toNat, x.toBitVec.isLt, Int64.toBitVec_inj.mp (by
  show x.toBitVec = BitVec.ofNat 64 x.toBitVec.toNat
  rw [BitVec.ofNat_toNat, BitVec.setWidth_eq])⟩
theorem lN_andg (a b : Nat) : lN a &&& lN b = lN (a &&& b) := Int64.toBitVec_inj.mp (by
  rw [Int64.toBitVec_and]
  show BitVec.ofNat 64 a &&& BitVec.ofNat 64 b = BitVec.ofNat 64 (a &&& b)
  rw [BitVec.ofNat_and])
theorem lan_y {x y : Int64} {h : Int} (hy : 0 ≤ y.toInt ∧ y.toInt ≤ h) : ir (x &&& y).toInt 0 h := by
  obtain ⟨j, e, hj, rfl⟩ := nat_l hy
  obtain ⟨k, hk, rfl⟩ := any_l x
  have q : k &&& j ≤ j := Nat.and_le_right
  rw [lN_andg, pk_lT (by omega)]
  exact ⟨by omega, by omega⟩
theorem lan_x {x y : Int64} {h : Int} (hy : 0 ≤ x.toInt ∧ x.toInt ≤ h) : ir (x &&& y).toInt 0 h := by
  obtain ⟨j, e, hj, rfl⟩ := nat_l hy
  obtain ⟨k, hk, rfl⟩ := any_l y
  have q : j &&& k ≤ j := Nat.and_le_left
  rw [lN_andg, pk_lT (by omega)]
  exact ⟨by omega, by omega⟩
theorem li_z {x : Int64} {a l h : Int} (hx : x.toInt = a) (ha : ir a l h) (h1 : -2147483648 ≤ l) (h2 : h ≤ 2147483647) : x.toInt32.toInt = a := by
  rw [Int64.toInt_toInt32, hx, gb_mod (by omega) (by omega)]
theorem vi_rg {x : Int32} {a l h : Int} {n : Nat} (hx : x.toInt = a) (ha : ir a l h) (h0 : 0 ≤ l) (h1 : h < (n : Int)) : vp_in x n := vi_in hx (Int.le_trans h0 ha.1) (by omega)
theorem vi_cl {i : Int32} {n : Nat} (h : vp_in i n) : i.toNatClampNeg < n := Nat.lt_of_not_le (fun q => h (Or.inr q))
theorem ir_lta {a b l h l2 h2 e : Int} (f : a < b) (ha : ir a l h) (hb : ir b l2 h2) (he : h2 ≤ e + 1) : ir a l e := ⟨ha.1, by omega⟩
theorem ir_ltb {a b l h l2 h2 e : Int} (f : a < b) (ha : ir a l h) (hb : ir b l2 h2) (he : e ≤ l + 1) : ir b e h2 := ⟨by omega, hb.2⟩
theorem ir_lea {a b l h l2 h2 e : Int} (f : a ≤ b) (ha : ir a l h) (hb : ir b l2 h2) (he : h2 ≤ e) : ir a l e := ⟨ha.1, by omega⟩
theorem ir_leb {a b l h l2 h2 e : Int} (f : a ≤ b) (ha : ir a l h) (hb : ir b l2 h2) (he : e ≤ l) : ir b e h2 := ⟨by omega, hb.2⟩
theorem ir_eqa {a b l h l2 h2 e e2 : Int} (f : a = b) (ha : ir a l h) (hb : ir b l2 h2) (he : e ≤ l ∨ e ≤ l2) (he2 : h ≤ e2 ∨ h2 ≤ e2) : ir a e e2 := ⟨by omega, by omega⟩
theorem ir_eqb {a b l h l2 h2 e e2 : Int} (f : a = b) (ha : ir a l h) (hb : ir b l2 h2) (he : e ≤ l ∨ e ≤ l2) (he2 : h ≤ e2 ∨ h2 ≤ e2) : ir b e e2 := ⟨by omega, by omega⟩
theorem ir_nel {a b l h e : Int} (f : a ≠ b) (ha : ir a l h) (hb : b = l) (he : e ≤ l + 1) : ir a e h := ⟨by omega, ha.2⟩
theorem ir_neh {a b l h e : Int} (f : a ≠ b) (ha : ir a l h) (hb : b = h) (he : h ≤ e + 1) : ir a l e := ⟨ha.1, by omega⟩
theorem bo_t {x : Int32} (h : ir x.toInt 0 1) : x = 0 ∨ x = 1 := by
  obtain ⟨j, e, hj, rfl⟩ := nat_i (x := x) rfl h (by decide)
  match j, e with
  | 0, _ => exact Or.inl rfl
  | 1, _ => exact Or.inr rfl
  | n + 2, e => exfalso; omega
theorem bo_n {x : Int32} (h : ir x.toInt 0 1) : narrow .boolean (.int x) = .int x := by
  rcases bo_t h with rfl | rfl <;> rfl
theorem bo_f {x : Int32} (h : ir x.toInt 0 1) : fits .boolean (.int x) = true := by
  rcases bo_t h with rfl | rfl <;> rfl
theorem bo_r (x : Int32) : ir (vp_nar .boolean x).toInt 0 1 := by
  show ir (x &&& 1).toInt 0 1
  exact an_y (l := 1) (h := 1) rfl (by decide) (by decide)
theorem ar_u {f : Nat → Int32} {n k : Nat} {a b : Int} {v : Int32} (h : ar f n a b) (hv : ir v.toInt a b) : ar (upd f k v) n a b := fun j hj => by
  show ir (if j = k then v else f j).toInt a b
  by_cases e : j = k
  · rw [if_pos e]; exact hv
  · rw [if_neg e]; exact h j hj
theorem ar_cp {f g : Nat → Int32} {n : Nat} {a b : Int} (h : ar f n a b) : ar (va_cpy f g 0 0 n) n a b := fun j hj => by
  show ir (if 0 ≤ j ∧ j < 0 + n then f (0 + (j - 0)) else g j).toInt a b
  rw [if_pos ⟨Nat.zero_le _, by omega⟩]
  exact h _ (by omega)
theorem max_r {x y : Int32} {a b l h l2 h2 lo hi : Int} (hx : x.toInt = a) (hy : y.toInt = b) (ha : ir a l h) (hb : ir b l2 h2) (e1 : lo ≤ l ∨ lo ≤ l2) (e2 : h ≤ hi) (e3 : h2 ≤ hi) (_ : True) : ir (if x < y then y else x).toInt lo hi := by
  by_cases q : x < y
  · have := z_lt hx hy q
    rw [if_pos q, hy]; exact ⟨by omega, by omega⟩
  · have := z_nlt hx hy q
    rw [if_neg q, hx]; exact ⟨by omega, by omega⟩
theorem min_r {x y : Int32} {a b l h l2 h2 lo hi : Int} (hx : x.toInt = a) (hy : y.toInt = b) (ha : ir a l h) (hb : ir b l2 h2) (e1 : lo ≤ l) (e2 : lo ≤ l2) (e3 : h ≤ hi ∨ h2 ≤ hi) (_ : True) : ir (if y < x then y else x).toInt lo hi := by
  by_cases q : y < x
  · have := z_lt hy hx q
    rw [if_pos q, hy]; exact ⟨by omega, by omega⟩
  · have := z_nlt hy hx q
    rw [if_neg q, hx]; exact ⟨by omega, by omega⟩
theorem nn_o {x : Int32} {a : Int} (hx : x.toInt = a) (h : 0 ≤ a) : ¬ x < 0 := fun q => by
  have := Int32.lt_iff_toInt_lt.mp q
  have e : (0 : Int32).toInt = 0 := rfl
  omega
theorem nn_i {x : Int32} {a l h : Int} (hx : x.toInt = a) (ha : ir a l h) (h0 : 0 ≤ l) : ¬ x < 0 := nn_o hx (Int.le_trans h0 ha.1)
theorem cl_t {x : Int32} {a : Int} (hx : x.toInt = a) (h : 0 ≤ a) : ((x.toNatClampNeg : Nat) : Int) = a := by
  obtain ⟨j, e, hj, rfl⟩ := nat_i (l := a) (h := a) hx ⟨Int.le_refl _, Int.le_refl _⟩ h
  rw [nI_clamp hj, e]
theorem cp_o {x n : Int32} {a b : Int} {m : Nat} (hx : x.toInt = a) (hn : n.toInt = b) (h0 : 0 ≤ a) (h1 : 0 ≤ b) (h2 : a + b ≤ (m : Int)) : x.toNatClampNeg + n.toNatClampNeg ≤ m := by
  have e1 := cl_t hx h0
  have e2 := cl_t hn h1
  omega
theorem cp_i {x n : Int32} {a b l h l2 h2 : Int} {m : Nat} (hx : x.toInt = a) (hn : n.toInt = b) (ha : ir a l h) (hb : ir b l2 h2) (h0 : 0 ≤ l) (h02 : 0 ≤ l2) (h3 : h + h2 ≤ (m : Int)) : x.toNatClampNeg + n.toNatClampNeg ≤ m := cp_o hx hn (Int.le_trans h0 ha.1) (Int.le_trans h02 hb.1) (by omega)
theorem cI_of {x k : Int32} {c : Int} (h : ir x.toInt c c) (e : k.toInt = c) : x = k := Int32.toInt_inj.mp (by rw [e]; omega)
theorem tsw (n : Nat) (x : Int32) (hn : n < 1000 := by decide) : (x.toInt < 0 ∨ (n : Int) < x.toInt) ∨ ∃ j, j < n + 1 ∧ x = nI j := by
  by_cases h : x.toInt < 0 ∨ (n : Int) < x.toInt
  · exact Or.inl h
  · obtain ⟨j, e, hj, rfl⟩ := nat_i (x := x) (l := 0) (h := (n : Int)) rfl ⟨by omega, by omega⟩ (by decide)
    exact Or.inr ⟨j, by omega, rfl⟩
theorem sw_c {x : Int32} {j : Nat} {v : Int} (e : x = nI j) (h : (nI j).toInt = v) : ir x.toInt v v := by
  rw [e, h]; exact ir_c v
theorem nz_l {x : Int64} (h : x.toInt ≠ 0) : ¬ x = 0 := fun e => h (by rw [e]; rfl)
theorem nz_i {x : Int32} (h : x.toInt ≠ 0) : ¬ x = 0 := fun e => h (by rw [e]; rfl)
theorem rm3 {x y : Int32} (e : y = x - x / 3 * 3) (h : ir x.toInt (-1) 60) : y.toInt = 0 → x.toInt % 3 = 0 := by
  intro hy
  by_cases h0 : 0 ≤ x.toInt
  · obtain ⟨j, ej, hj, rfl⟩ := nat_i (x := x) (l := 0) (h := 60) rfl ⟨h0, h.2⟩ (by decide)
    have q : nI j - nI j / nI 3 * nI 3 = nI (j % 3) := pk_rem hj (by decide) (by decide)
    have e2 : y = nI (j % 3) := e.trans q
    rw [e2, nI_toInt (by omega)] at hy
    omega
  · have e1 : x = -1 := Int32.toInt_inj.mp (by
      have : (-1 : Int32).toInt = -1 := rfl
      omega)
    subst e1
    rw [e] at hy
    exact absurd hy (by decide)
/-! rows of the reference that hold things of several kinds -/
def hasI (f : Nat → Int32) : Prop := ∀ w, w < 5 → ir (f (5 * w)).toInt 0 40 ∧ ir (f (5 * w + 3)).toInt 0 10 ∧ ir (f (5 * w + 4)).toInt 0 16
theorem hasI_0 {f : Nat → Int32} (h : hasI f) (w : Nat) (hw : w < 5) : ir (f (5 * w)).toInt 0 40 := (h w hw).1
theorem hasI_3 {f : Nat → Int32} (h : hasI f) (w : Nat) (hw : w < 5) : ir (f (5 * w + 3)).toInt 0 10 := (h w hw).2.1
theorem hasI_4 {f : Nat → Int32} (h : hasI f) (w : Nat) (hw : w < 5) : ir (f (5 * w + 4)).toInt 0 16 := (h w hw).2.2
theorem upd_ir {f : Nat → Int32} {k j : Nat} {v : Int32} {a b : Int} (h : ir (f j).toInt a b) (hv : j = k → ir v.toInt a b) : ir (upd f k v j).toInt a b := by
  show ir (if j = k then v else f j).toInt a b
  by_cases e : j = k
  · rw [if_pos e]; exact hv e
  · rw [if_neg e]; exact h
theorem hasI_u {f : Nat → Int32} {k : Nat} {v : Int32} (h : hasI f) (hv : ir v.toInt 0 10) : hasI (upd f k v) := fun w hw => ⟨upd_ir (h w hw).1 (fun _ => ir_w hv (by decide) (by decide)), upd_ir (h w hw).2.1 (fun _ => hv), upd_ir (h w hw).2.2 (fun _ => ir_w hv (by decide) (by decide))⟩
theorem hasI_u0 {f : Nat → Int32} {v : Int32} (h : hasI f) (w : Nat) (hv : ir v.toInt 0 40) : hasI (upd f (5 * w) v) := fun w2 hw => ⟨upd_ir (h w2 hw).1 (fun _ => hv), upd_ir (h w2 hw).2.1 (fun e => by omega), upd_ir (h w2 hw).2.2 (fun e => by omega)⟩
theorem hasI_u4 {f : Nat → Int32} {v : Int32} (h : hasI f) (w : Nat) (hv : ir v.toInt 0 16) : hasI (upd f (5 * w + 4) v) := fun w2 hw => ⟨upd_ir (h w2 hw).1 (fun e => by omega), upd_ir (h w2 hw).2.1 (fun e => by omega), upd_ir (h w2 hw).2.2 (fun _ => hv)⟩
theorem hasI_un {f : Nat → Int32} {v : Int32} {k : Nat} (h : hasI f) (w : Nat) (hk : k = 5 * w + 1 ∨ k = 5 * w + 2) : hasI (upd f k v) := fun w2 hw => ⟨upd_ir (h w2 hw).1 (fun e => by omega), upd_ir (h w2 hw).2.1 (fun e => by omega), upd_ir (h w2 hw).2.2 (fun e => by omega)⟩
theorem hasI_cp {f : Nat → Int32} {a b k i j : Nat} (h : hasI f) (ha : a < 5) (hi : i = 5 * b + k) (hj : j = 5 * a + k) (hk : k < 5) : hasI (upd f i (f j)) := fun w hw => by
  obtain ⟨h1, h2, h3⟩ := h a ha
  refine ⟨upd_ir (h w hw).1 (fun e => ?_), upd_ir (h w hw).2.1 (fun e => ?_), upd_ir (h w hw).2.2 (fun e => ?_)⟩
  · have e2 : j = 5 * a := by omega
    rw [e2]; exact h1
  · have e2 : j = 5 * a + 3 := by omega
    rw [e2]; exact h2
  · have e2 : j = 5 * a + 4 := by omega
    rw [e2]; exact h3
def perI (f : Nat → Int32) : Prop := ∀ w, w < 50 → ir (f (5 * w)).toInt 0 15 ∧ ir (f (5 * w + 1)).toInt 0 1
theorem perI_0 {f : Nat → Int32} (h : perI f) (w : Nat) (hw : w < 50) : ir (f (5 * w)).toInt 0 15 := (h w hw).1
theorem perI_1 {f : Nat → Int32} (h : perI f) (w : Nat) (hw : w < 50) : ir (f (5 * w + 1)).toInt 0 1 := (h w hw).2
theorem perI_u {f : Nat → Int32} {k : Nat} {v : Int32} (h : perI f) (hv : ir v.toInt 0 1) : perI (upd f k v) := fun w hw => ⟨upd_ir (h w hw).1 (fun _ => ir_w hv (by decide) (by decide)), upd_ir (h w hw).2 (fun _ => hv)⟩
theorem perI_0v {f : Nat → Int32} {k : Nat} {v : Int32} (h : perI f) (hk : k % 5 = 0) (hv : ir v.toInt 0 15) : perI (upd f k v) := fun w hw => ⟨upd_ir (h w hw).1 (fun _ => hv), upd_ir (h w hw).2 (fun e => by omega)⟩
theorem perI_n {f : Nat → Int32} {k : Nat} {v : Int32} (h : perI f) (hk : 2 ≤ k % 5) : perI (upd f k v) := fun w hw => ⟨upd_ir (h w hw).1 (fun e => by omega), upd_ir (h w hw).2 (fun e => by omega)⟩
theorem perI_cp {f : Nat → Int32} {a b k i j : Nat} (h : perI f) (ha : a < 5) (hi : i = 50 * b + k) (hj : j = 50 * a + k) (hk : k < 50) : perI (upd f i (f j)) := fun w hw => by
  refine ⟨upd_ir (h w hw).1 (fun e => ?_), upd_ir (h w hw).2 (fun e => ?_)⟩
  · have q := (h (10 * a + k / 5) (by omega)).1
    have e2 : j = 5 * (10 * a + k / 5) := by omega
    rw [e2]; exact q
  · have q := (h (10 * a + k / 5) (by omega)).2
    have e2 : j = 5 * (10 * a + k / 5) + 1 := by omega
    rw [e2]; exact q
