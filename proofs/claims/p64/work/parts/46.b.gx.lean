theorem rl_z {x : Int64} {z : Int} (h : x.toInt = z) : ir z (-9223372036854775808) 9223372036854775807 := by rw [← h]; exact rl_all x
theorem rg_z {x : Int32} {z : Int} (h : x.toInt = z) : ir z (-2147483648) 2147483647 := by rw [← h]; exact rg_all x
/-! more of numbers, for the reference -/
theorem lsu_z {x y : Int64} {a b l h l2 h2 : Int} (hx : x.toInt = a) (hy : y.toInt = b) (ha : ir a l h) (hb : ir b l2 h2) (h1 : -9223372036854775808 ≤ l - h2) (h3 : h - l2 ≤ 9223372036854775807) : (x - y).toInt = a - b := by
  rw [Int64.toInt_sub, hx, hy, gb_modL (by omega) (by omega)]
theorem lmu_z {x y : Int64} {a b : Int} (hx : x.toInt = a) (hy : y.toInt = b) (h1 : -9223372036854775808 ≤ a * b) (h3 : a * b ≤ 9223372036854775807) : (x * y).toInt = a * b := by
  rw [Int64.toInt_mul, hx, hy, gb_modL (by omega) (by omega)]
theorem rem_r (d : Nat) {x y : Int32} {a l h hi : Int} (hx : x.toInt = a) (ha : ir a l h) (h0 : 0 ≤ l) (hd : 0 < d ∧ d < 2 ^ 31) (hy : y = nI d) (hh : (d : Int) ≤ hi + 1) : ir (x - x / y * y).toInt 0 hi := by
  obtain ⟨j, e, hj, rfl⟩ := nat_i hx ha h0
  subst hy
  have q := Nat.mod_lt j hd.1
  have q2 := hd.2
  rw [pk_rem hj hd.1 hd.2, nI_toInt (by omega)]
  exact ⟨by omega, by omega⟩
theorem bv_dec {w : Nat} (b : BitVec w) (h : b.toNat ≠ 0) : (b &&& (b - 1#w)).toNat < b.toNat := by
  have h1 : (b &&& (b - 1#w)).toNat ≤ (b - 1#w).toNat := by
    rw [BitVec.toNat_and]; exact Nat.and_le_right
  have h2 := b.isLt
  have h3 : (1#w).toNat ≤ 1 := by
    rw [BitVec.toNat_ofNat]; exact Nat.mod_le _ _
  have h4 : (1#w).toNat = 1 := by
    rw [BitVec.toNat_ofNat]
    exact Nat.mod_eq_of_lt (by omega)
  have h5 : (b - 1#w).toNat = b.toNat - 1 := by
    rw [BitVec.toNat_sub, h4]
    have e : 2 ^ w - 1 + b.toNat = (b.toNat - 1) + 2 ^ w := by omega
    rw [e, Nat.add_mod_right, Nat.mod_eq_of_lt (by omega)]
  omega
theorem sz_dec {x y z : Int32} (e : z = x &&& y) (e2 : y = x - 1) (h : ¬ x = 0) : z.toUInt32.toNat < x.toUInt32.toNat := by
  subst e2
  subst e
  show (x.toBitVec &&& (x.toBitVec - 1#32)).toNat < x.toBitVec.toNat
  refine bv_dec _ (fun q => h (Int32.toInt_inj.mp ?_))
  have hb : x.toBitVec = 0#32 := BitVec.eq_of_toNat_eq q
  show x.toBitVec.toInt = _
  rw [hb]
  rfl
theorem sl_dec {x y z : Int64} (e : z = x &&& y) (e2 : y = x - 1) (h : ¬ x = 0) : z.toUInt64.toNat < x.toUInt64.toNat := by
  subst e2
  subst e
  show (x.toBitVec &&& (x.toBitVec - 1#64)).toNat < x.toBitVec.toNat
  refine bv_dec _ (fun q => h (Int64.toInt_inj.mp ?_))
  have hb : x.toBitVec = 0#64 := BitVec.eq_of_toNat_eq q
  show x.toBitVec.toInt = _
  rw [hb]
  rfl
theorem perI_i0 {f : Nat → Int32} (h : perI f) {x : Int32} {w : Int} (hx : x.toInt = 5 * w) (h0 : 0 ≤ w) (h1 : w < 50) : ir (f x.toNatClampNeg).toInt 0 15 := by
  have c := cl_t hx (by omega)
  have e : x.toNatClampNeg = 5 * w.toNat := by omega
  rw [e]
  exact perI_0 h _ (by omega)
theorem perI_i1 {f : Nat → Int32} (h : perI f) {x : Int32} {w : Int} (hx : x.toInt = 5 * w + 1) (h0 : 0 ≤ w) (h1 : w < 50) : ir (f x.toNatClampNeg).toInt 0 1 := by
  have c := cl_t hx (by omega)
  have e : x.toNatClampNeg = 5 * w.toNat + 1 := by omega
  rw [e]
  exact perI_1 h _ (by omega)
def rwaI (f : Nat → Int32) : Prop := ∀ w, w < 10 → ir (f (2 * w)).toInt 0 15 ∧ ir (f (2 * w + 1)).toInt 0 1
theorem rwaI_0 {f : Nat → Int32} (h : rwaI f) (w : Nat) (hw : w < 10) : ir (f (2 * w)).toInt 0 15 := (h w hw).1
theorem rwaI_1 {f : Nat → Int32} (h : rwaI f) (w : Nat) (hw : w < 10) : ir (f (2 * w + 1)).toInt 0 1 := (h w hw).2
theorem rwaI_u {f : Nat → Int32} {k : Nat} {v : Int32} (h : rwaI f) (hv : ir v.toInt 0 1) : rwaI (upd f k v) := fun w hw => ⟨upd_ir (h w hw).1 (fun _ => ir_w hv (by decide) (by decide)), upd_ir (h w hw).2 (fun _ => hv)⟩
theorem rwaI_0v {f : Nat → Int32} {k : Nat} {v : Int32} (h : rwaI f) (hk : k % 2 = 0) (hv : ir v.toInt 0 15) : rwaI (upd f k v) := fun w hw => ⟨upd_ir (h w hw).1 (fun _ => hv), upd_ir (h w hw).2 (fun e => by omega)⟩
theorem rwaI_i0 {f : Nat → Int32} (h : rwaI f) {x : Int32} {w : Int} (hx : x.toInt = 2 * w) (h0 : 0 ≤ w) (h1 : w < 10) : ir (f x.toNatClampNeg).toInt 0 15 := by
  have c := cl_t hx (by omega)
  have e : x.toNatClampNeg = 2 * w.toNat := by omega
  rw [e]
  exact rwaI_0 h _ (by omega)
theorem rwaI_i1 {f : Nat → Int32} (h : rwaI f) {x : Int32} {w : Int} (hx : x.toInt = 2 * w + 1) (h0 : 0 ≤ w) (h1 : w < 10) : ir (f x.toNatClampNeg).toInt 0 1 := by
  have c := cl_t hx (by omega)
  have e : x.toNatClampNeg = 2 * w.toNat + 1 := by omega
  rw [e]
  exact rwaI_1 h _ (by omega)
/-- the row of a SLOT, as whyNot leaves it through -/
def okR (mn : Nat → Int32) (ce : Nat → Int64) (p : Int32) : Prop := (mn p.toNatClampNeg).toInt % 3 = 0 ∧ ∀ j : Nat, (3 * j : Int) < (mn p.toNatClampNeg).toInt → ir (ce (60 * p.toNatClampNeg + 3 * j)).toInt 0 39
theorem okR_mk {mn : Nat → Int32} {ce : Nat → Int64} {p : Int32} (h1 : (mn p.toNatClampNeg).toInt % 3 = 0) (h2 : ∀ j : Nat, (3 * j : Int) < (mn p.toNatClampNeg).toInt → ir (ce (60 * p.toNatClampNeg + 3 * j)).toInt 0 39) : okR mn ce p := ⟨h1, h2⟩
theorem okR_s {f : Nat → Int64} {P : Nat} {i i2 : Int} {k : Nat} (h : ∀ j : Nat, (3 * j : Int) < i → ir (f (60 * P + 3 * j)).toInt 0 39) (h3 : i % 3 = 0) (hk : (k : Int) = 60 * P + i) (hv : ir (f k).toInt 0 39) (hi : i2 = i + 3) : ∀ j : Nat, (3 * j : Int) < i2 → ir (f (60 * P + 3 * j)).toInt 0 39 := by
  intro j hj
  by_cases c : (3 * j : Int) < i
  · exact h j c
  · have e : k = 60 * P + 3 * j := by omega
    rw [← e]
    exact hv
theorem okR_i {mn : Nat → Int32} {ce : Nat → Int64} {p : Int32} (h : okR mn ce p) {i : Int} {k : Nat} (h0 : 0 ≤ i) (h1 : 3 * i < (mn p.toNatClampNeg).toInt) (hk : (k : Int) = 60 * p.toNatClampNeg + 3 * i) : ir (ce k).toInt 0 39 := by
  have q := h.2 i.toNat (by omega)
  have e : k = 60 * p.toNatClampNeg + 3 * i.toNat := by omega
  rw [e]
  exact q
/-- how much all is, by the years that went by -/
abbrev allY (z k : Int) : Prop := (z = 1 ∧ k = 0) ∨ (z = 1000000 ∧ k = 1) ∨ (z = 1000000000000 ∧ k = 2) ∨ (z = 1000000000000000000 ∧ k = 3)
theorem allY_s {x y : Int64} {k k2 : Int} (h : allY x.toInt k) (e : y = x * 1000000) (hk : k < 3) (h2 : k2 = k + 1) : allY y.toInt k2 := by
  have c : (1000000 : Int64).toInt = 1000000 := rfl
  rcases h with ⟨h, q⟩ | ⟨h, q⟩ | ⟨h, q⟩ | ⟨h, q⟩
  · right; left; exact ⟨by rw [e, lmu_z h c (by decide) (by decide)]; rfl, by omega⟩
  · right; right; left; exact ⟨by rw [e, lmu_z h c (by decide) (by decide)]; rfl, by omega⟩
  · right; right; right; exact ⟨by rw [e, lmu_z h c (by decide) (by decide)]; rfl, by omega⟩
  · omega
theorem mt_mono {l : Launch} {y : MethodName} {ws : List Cond} {rm : Room} {Pc Pc' : Array Value → State → Prop} {Qc Qc' : Array Value → State → Outcome → State → Prop} {mc ms : Nat} {free free' : Addr → Prop} (h : Met l y ws rm Pc Qc mc ms free) (hp : ∀ a s, Pc' a s → Pc a s) (hq : ∀ a s o t, Pc' a s → Qc a s o t → Qc' a s o t) (hf : ∀ q, free q → free' q) : Met l y ws rm Pc' Qc' mc ms free' := fun p e ha hc1 hc2 s m args below hfr hs hP hK => by
  obtain ⟨n, o, h1, h2, h3, h4, L, h5, h6⟩ := h p e ha hc1 hc2 s m args below hfr hs (hp _ _ hP) hK
  exact ⟨n, o, h1, h2, h3, hq _ _ _ _ hP h4, L, h5, fun q hq => hf _ (h6 q hq)⟩
/-! what the reference's small questions answer -/
def hv0 (f : Nat → Int32) (p : Int32) : Int32 := f (5 * p + 0).toNatClampNeg
def hv1 (f : Nat → Int32) (p : Int32) : Int32 := f (5 * p + 1).toNatClampNeg
def whoV (f : Nat → Int32) (q s : Int32) : Int32 := f (3 * q + s).toNatClampNeg
def ruV (f : Nat → Int32) (p : Int32) : Int32 := hv0 f p + 16 * hv1 f p
def sdV (pr pe : Nat → Int32) (q s : Int32) : Int32 := ruV pe (whoV pr q s)
/-! common: how deep it goes -/
theorem cm_nat {A B d : Nat} (h0 : B ≠ 0) (h1 : B ≤ A) (h2 : A * B < 2 ^ (d + 1)) : B * (A % B) < 2 ^ d := by
  have q1 : A % B < B := Nat.mod_lt _ (Nat.pos_of_ne_zero h0)
  have q2 := Nat.div_add_mod A B
  have q3 : 1 ≤ A / B := (Nat.le_div_iff_mul_le (Nat.pos_of_ne_zero h0)).mpr (by omega)
  have q4 : B * 1 ≤ B * (A / B) := Nat.mul_le_mul_left B q3
  have q5 : 2 * (A % B) ≤ A := by omega
  have q6 : B * (2 * (A % B)) ≤ B * A := Nat.mul_le_mul_left B q5
  have q7 : B * (2 * (A % B)) = 2 * (B * (A % B)) := by rw [Nat.mul_left_comm]
  have q8 : B * A = A * B := Nat.mul_comm _ _
  have q9 : 2 ^ (d + 1) = 2 * 2 ^ d := by rw [Nat.pow_succ, Nat.mul_comm]
  omega
theorem cm_rem {x y z : Int64} (e : z = x % y) : z.toInt.natAbs = x.toInt.natAbs % y.toInt.natAbs := by
  rw [e, Int64.toInt_mod, Int.natAbs_tmod]
/-- after the first turn -/
def cmK (d : Nat) (a b : Int) : Prop := b.natAbs < a.natAbs ∧ a.natAbs * b.natAbs < 2 ^ d
theorem cmK_0 {a b : Int} (h : cmK 0 a b) : b = 0 := by
  have h1 := h.1
  have h2 : a.natAbs * b.natAbs < 1 := h.2
  by_cases q : b.natAbs = 0
  · omega
  · have q2 : 1 * 1 ≤ a.natAbs * b.natAbs := Nat.mul_le_mul (by omega) (by omega)
    omega
theorem cmK_s {d : Nat} {x y z : Int64} (h : cmK (d + 1) x.toInt y.toInt) (h0 : y.toInt ≠ 0) (e : z = x % y) : cmK d y.toInt z.toInt := by
  have q := cm_rem e
  have q0 : y.toInt.natAbs ≠ 0 := by omega
  refine ⟨by rw [q]; exact Nat.mod_lt _ (Nat.pos_of_ne_zero q0), ?_⟩
  rw [q]
  exact cm_nat q0 (Nat.le_of_lt h.1) h.2
theorem cmK_t {x y z : Int64} (h0 : y.toInt ≠ 0) (e : z = x % y) : cmK 127 y.toInt z.toInt := by
  have q := cm_rem e
  have q0 : y.toInt.natAbs ≠ 0 := by omega
  have q1 : z.toInt.natAbs < y.toInt.natAbs := by rw [q]; exact Nat.mod_lt _ (Nat.pos_of_ne_zero q0)
  have q2 := rl_all y
  refine ⟨q1, ?_⟩
  have q3 : y.toInt.natAbs ≤ 2 ^ 63 := by omega
  have q4 : y.toInt.natAbs * z.toInt.natAbs ≤ 2 ^ 63 * 2 ^ 63 := Nat.mul_le_mul q3 (by omega)
  omega
theorem lrem_eq {x y : Int64} (h : y.toInt ≠ 0) : x - x / y * y = x % y := by
  apply Int64.toInt_inj.mp
  have hb := rl_all y
  have q : (x.toInt.tmod y.toInt).natAbs < 2 ^ 63 := by
    rw [Int.natAbs_tmod]
    exact Nat.lt_of_lt_of_le (Nat.mod_lt _ (by omega)) (by omega)
  have e : x.toInt - x.toInt.tdiv y.toInt * y.toInt = x.toInt.tmod y.toInt := by
    rw [Int.tmod_def, Int.mul_comm]
  rw [Int64.toInt_mod, Int64.toInt_sub, Int64.toInt_mul, Int64.toInt_div, Int.bmod_mul_bmod, Int.sub_bmod_bmod, e]
  exact gb_modL (by omega) (by omega)
theorem hasI_i4 {f : Nat → Int32} (h : hasI f) {x y : Int32} (hy : y.toInt = 5 * x.toInt + 4) (hx : 0 ≤ x.toInt ∧ x.toInt < 5) : ir (f y.toNatClampNeg).toInt 0 16 := by
  have c := cl_t hy (by omega)
  have e : y.toNatClampNeg = 5 * x.toInt.toNat + 4 := by omega
  rw [e]
  exact hasI_4 h _ (by omega)
