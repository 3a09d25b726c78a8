/-! the law's bytes, chunk by chunk, and what they decode to -/
abbrev Um (c : ByteArray) (p v : Nat) : Prop := (Jvm.ClassFile.Reader.u1 : Jvm.ClassFile.Decoder Nat) c p = .ok (v, p + 1)
theorem Um_of (l : List UInt8) {p : Nat} {b : UInt8} (h : l[p]? = some b) : Um ⟨⟨l⟩⟩ p b.toNat := by
  obtain ⟨hp, e⟩ := List.getElem?_eq_some_iff.mp h
  have hs : p < (ByteArray.mk (Array.mk l)).size := hp
  show (dite (p < (ByteArray.mk (Array.mk l)).size) (fun h => (do set (p + 1); Pure.pure (ByteArray.mk (Array.mk l))[p].toNat : Jvm.ClassFile.Decoder Nat)) (fun _ => throw (Jvm.ClassFile.HasTruncated.truncated p))) (ByteArray.mk (Array.mk l)) p = _
  rw [dif_pos hs]
  show Except.ok (l[p].toNat, p + 1) = _
  rw [e]
theorem Um_ch {c : ByteArray} {k : Nat} {ch : List UInt8} (h : (c.data.toList.drop k).take 64 = ch) {p j v : Nat} {b : UInt8} (hb : ch[j]? = some b) (hp : k + j = p) (hv : b.toNat = v) : Um c p v := by
  subst hp hv
  rw [← h, List.getElem?_take, List.getElem?_drop] at hb
  split at hb
  · obtain ⟨⟨l⟩⟩ := c
    exact Um_of l hb
  · cases hb
theorem dw1 {c : ByteArray} {pc v : Nat} {x : Instr} {K : Nat → Jvm.ClassFile.Decoder Instr} (hK : Jvm.ClassFile.Decoder.instr pc = Bind.bind (Jvm.ClassFile.Reader.u1 : Jvm.ClassFile.Decoder Nat) K) (hv : K v = Pure.pure x) (hu : Um c pc v) : decode c pc = .ok (x, 1) := by
  have h2 : (Jvm.ClassFile.Decoder.instr pc).runAt c pc = .ok (x, pc + 1) := by
    rw [hK]
    show Except.bind (ε := Jvm.ClassFile.DecodeError) ((Jvm.ClassFile.Reader.u1 : Jvm.ClassFile.Decoder Nat) c pc) (fun q => (K q.1) c q.2) = _
    rw [hu]
    show (K v) c (pc + 1) = _
    rw [hv]
    rfl
  show Except.bind (ε := Jvm.ClassFile.DecodeError) ((Jvm.ClassFile.Decoder.instr pc).runAt c pc) (fun q => .ok (q.1, q.2 - pc)) = _
  rw [h2]
  show Except.ok (x, pc + 1 - pc) = _
  rw [Nat.add_sub_cancel_left]
theorem u2_of {c : ByteArray} {p a b : Nat} (h1 : Um c p a) (h2 : Um c (p + 1) b) : (Jvm.ClassFile.Reader.u2 : Jvm.ClassFile.Decoder Nat) c p = .ok (a * 256 + b, p + 1 + 1) := by
  show Except.bind (ε := Jvm.ClassFile.DecodeError) ((Jvm.ClassFile.Reader.u1 : Jvm.ClassFile.Decoder Nat) c p) (fun q => Except.bind (ε := Jvm.ClassFile.DecodeError) ((Jvm.ClassFile.Reader.u1 : Jvm.ClassFile.Decoder Nat) c q.2) (fun r => .ok (q.1 * 256 + r.1, r.2))) = _
  rw [h1]
  show Except.bind (ε := Jvm.ClassFile.DecodeError) ((Jvm.ClassFile.Reader.u1 : Jvm.ClassFile.Decoder Nat) c (p + 1)) (fun r => .ok (a * 256 + r.1, r.2)) = _
  rw [h2]
  rfl
theorem dw3 {c : ByteArray} {pc v a b : Nat} {f : Nat → Instr} {K : Nat → Jvm.ClassFile.Decoder Instr} (hK : Jvm.ClassFile.Decoder.instr pc = Bind.bind (Jvm.ClassFile.Reader.u1 : Jvm.ClassFile.Decoder Nat) K) (hv : K v = Bind.bind (Jvm.ClassFile.Reader.u2 : Jvm.ClassFile.Decoder Nat) (fun i => Pure.pure (f i))) (hu : Um c pc v) (h1 : Um c (pc + 1) a) (h2 : Um c (pc + 1 + 1) b) : decode c pc = .ok (f (a * 256 + b), 3) := by
  have h3 : (Jvm.ClassFile.Decoder.instr pc).runAt c pc = .ok (f (a * 256 + b), pc + 3) := by
    rw [hK]
    show Except.bind (ε := Jvm.ClassFile.DecodeError) ((Jvm.ClassFile.Reader.u1 : Jvm.ClassFile.Decoder Nat) c pc) (fun q => (K q.1) c q.2) = _
    rw [hu]
    show (K v) c (pc + 1) = _
    rw [hv]
    show Except.bind (ε := Jvm.ClassFile.DecodeError) ((Jvm.ClassFile.Reader.u2 : Jvm.ClassFile.Decoder Nat) c (pc + 1)) (fun q => .ok (f q.1, q.2)) = _
    rw [u2_of h1 h2]
    rfl
  show Except.bind (ε := Jvm.ClassFile.DecodeError) ((Jvm.ClassFile.Decoder.instr pc).runAt c pc) (fun q => .ok (q.1, q.2 - pc)) = _
  rw [h3]
  show Except.ok (f (a * 256 + b), pc + 3 - pc) = _
  rw [Nat.add_sub_cancel_left]
theorem dwg {c : ByteArray} {pc v a b : Nat} {d : Int} {f : Int → Instr} {K : Nat → Jvm.ClassFile.Decoder Instr} (hK : Jvm.ClassFile.Decoder.instr pc = Bind.bind (Jvm.ClassFile.Reader.u1 : Jvm.ClassFile.Decoder Nat) K) (hv : K v = Bind.bind (Jvm.ClassFile.Reader.s2 : Jvm.ClassFile.Decoder Int) (fun i => Pure.pure (f i))) (hu : Um c pc v) (h1 : Um c (pc + 1) a) (h2 : Um c (pc + 1 + 1) b) (hd : Jvm.ClassFile.Reader.signed 16 (a * 256 + b) = d) : decode c pc = .ok (f d, 3) := by
  have h3 : (Jvm.ClassFile.Decoder.instr pc).runAt c pc = .ok (f d, pc + 3) := by
    rw [hK]
    show Except.bind (ε := Jvm.ClassFile.DecodeError) ((Jvm.ClassFile.Reader.u1 : Jvm.ClassFile.Decoder Nat) c pc) (fun q => (K q.1) c q.2) = _
    rw [hu]
    show (K v) c (pc + 1) = _
    rw [hv]
    show Except.bind (ε := Jvm.ClassFile.DecodeError) (Except.bind (ε := Jvm.ClassFile.DecodeError) ((Jvm.ClassFile.Reader.u2 : Jvm.ClassFile.Decoder Nat) c (pc + 1)) (fun q => .ok (Jvm.ClassFile.Reader.signed 16 q.1, q.2))) (fun q => .ok (f q.1, q.2)) = _
    rw [u2_of h1 h2]
    show Except.ok (f (Jvm.ClassFile.Reader.signed 16 (a * 256 + b)), pc + 3) = _
    rw [hd]
  show Except.bind (ε := Jvm.ClassFile.DecodeError) ((Jvm.ClassFile.Decoder.instr pc).runAt c pc) (fun q => .ok (q.1, q.2 - pc)) = _
  rw [h3]
  show Except.ok (f d, pc + 3 - pc) = _
  rw [Nat.add_sub_cancel_left]
theorem dwK (pc : Nat) : ∃ K : Nat → Jvm.ClassFile.Decoder Instr, Jvm.ClassFile.Decoder.instr pc = Bind.bind (Jvm.ClassFile.Reader.u1 : Jvm.ClassFile.Decoder Nat) K ∧ K 182 = Bind.bind (Jvm.ClassFile.Reader.u2 : Jvm.ClassFile.Decoder Nat) (fun i => Pure.pure (Instr.invokevirtual i)) ∧ K 167 = Bind.bind (Jvm.ClassFile.Reader.s2 : Jvm.ClassFile.Decoder Int) (fun i => Pure.pure (Instr.goto i)) ∧ K 42 = Pure.pure (Instr.aload_n 0) ∧ K 43 = Pure.pure (Instr.aload_n 1) ∧ K 44 = Pure.pure (Instr.aload_n 2) ∧ K 3 = Pure.pure (Instr.iconst 0) ∧ K 4 = Pure.pure (Instr.iconst 1) ∧ K 5 = Pure.pure (Instr.iconst 2) ∧ K 6 = Pure.pure (Instr.iconst 3) ∧ K 7 = Pure.pure (Instr.iconst 4) ∧ K 8 = Pure.pure (Instr.iconst 5) ∧ K 29 = Pure.pure (Instr.iload_n 3) ∧ K 46 = Pure.pure (Instr.iaload) ∧ K 96 = Pure.pure (Instr.iadd) ∧ K 87 = Pure.pure (Instr.pop) ∧ K 88 = Pure.pure (Instr.pop2) := ⟨_, rfl, rfl, rfl, rfl, rfl, rfl, rfl, rfl, rfl, rfl, rfl, rfl, rfl, rfl, rfl, rfl, rfl⟩
theorem dq42 {c : ByteArray} {pc : Nat} (hu : Um c pc 42) : decode c pc = .ok (.aload_n 0, 1) := by
  obtain ⟨K, hK, h182, h167, h42, h43, h44, h3, h4, h5, h6, h7, h8, h29, h46, h96, h87, h88⟩ := dwK pc
  exact dw1 hK h42 hu
theorem dq43 {c : ByteArray} {pc : Nat} (hu : Um c pc 43) : decode c pc = .ok (.aload_n 1, 1) := by
  obtain ⟨K, hK, h182, h167, h42, h43, h44, h3, h4, h5, h6, h7, h8, h29, h46, h96, h87, h88⟩ := dwK pc
  exact dw1 hK h43 hu
theorem dq44 {c : ByteArray} {pc : Nat} (hu : Um c pc 44) : decode c pc = .ok (.aload_n 2, 1) := by
  obtain ⟨K, hK, h182, h167, h42, h43, h44, h3, h4, h5, h6, h7, h8, h29, h46, h96, h87, h88⟩ := dwK pc
  exact dw1 hK h44 hu
theorem dq3 {c : ByteArray} {pc : Nat} (hu : Um c pc 3) : decode c pc = .ok (.iconst 0, 1) := by
  obtain ⟨K, hK, h182, h167, h42, h43, h44, h3, h4, h5, h6, h7, h8, h29, h46, h96, h87, h88⟩ := dwK pc
  exact dw1 hK h3 hu
theorem dq4 {c : ByteArray} {pc : Nat} (hu : Um c pc 4) : decode c pc = .ok (.iconst 1, 1) := by
  obtain ⟨K, hK, h182, h167, h42, h43, h44, h3, h4, h5, h6, h7, h8, h29, h46, h96, h87, h88⟩ := dwK pc
  exact dw1 hK h4 hu
theorem dq5 {c : ByteArray} {pc : Nat} (hu : Um c pc 5) : decode c pc = .ok (.iconst 2, 1) := by
  obtain ⟨K, hK, h182, h167, h42, h43, h44, h3, h4, h5, h6, h7, h8, h29, h46, h96, h87, h88⟩ := dwK pc
  exact dw1 hK h5 hu
theorem dq6 {c : ByteArray} {pc : Nat} (hu : Um c pc 6) : decode c pc = .ok (.iconst 3, 1) := by
  obtain ⟨K, hK, h182, h167, h42, h43, h44, h3, h4, h5, h6, h7, h8, h29, h46, h96, h87, h88⟩ := dwK pc
  exact dw1 hK h6 hu
theorem dq7 {c : ByteArray} {pc : Nat} (hu : Um c pc 7) : decode c pc = .ok (.iconst 4, 1) := by
  obtain ⟨K, hK, h182, h167, h42, h43, h44, h3, h4, h5, h6, h7, h8, h29, h46, h96, h87, h88⟩ := dwK pc
  exact dw1 hK h7 hu
theorem dq8 {c : ByteArray} {pc : Nat} (hu : Um c pc 8) : decode c pc = .ok (.iconst 5, 1) := by
  obtain ⟨K, hK, h182, h167, h42, h43, h44, h3, h4, h5, h6, h7, h8, h29, h46, h96, h87, h88⟩ := dwK pc
  exact dw1 hK h8 hu
theorem dq29 {c : ByteArray} {pc : Nat} (hu : Um c pc 29) : decode c pc = .ok (.iload_n 3, 1) := by
  obtain ⟨K, hK, h182, h167, h42, h43, h44, h3, h4, h5, h6, h7, h8, h29, h46, h96, h87, h88⟩ := dwK pc
  exact dw1 hK h29 hu
theorem dq46 {c : ByteArray} {pc : Nat} (hu : Um c pc 46) : decode c pc = .ok (.iaload, 1) := by
  obtain ⟨K, hK, h182, h167, h42, h43, h44, h3, h4, h5, h6, h7, h8, h29, h46, h96, h87, h88⟩ := dwK pc
  exact dw1 hK h46 hu
theorem dq96 {c : ByteArray} {pc : Nat} (hu : Um c pc 96) : decode c pc = .ok (.iadd, 1) := by
  obtain ⟨K, hK, h182, h167, h42, h43, h44, h3, h4, h5, h6, h7, h8, h29, h46, h96, h87, h88⟩ := dwK pc
  exact dw1 hK h96 hu
theorem dq87 {c : ByteArray} {pc : Nat} (hu : Um c pc 87) : decode c pc = .ok (.pop, 1) := by
  obtain ⟨K, hK, h182, h167, h42, h43, h44, h3, h4, h5, h6, h7, h8, h29, h46, h96, h87, h88⟩ := dwK pc
  exact dw1 hK h87 hu
theorem dq88 {c : ByteArray} {pc : Nat} (hu : Um c pc 88) : decode c pc = .ok (.pop2, 1) := by
  obtain ⟨K, hK, h182, h167, h42, h43, h44, h3, h4, h5, h6, h7, h8, h29, h46, h96, h87, h88⟩ := dwK pc
  exact dw1 hK h88 hu
theorem dq182 {c : ByteArray} {pc a b : Nat} (hu : Um c pc 182) (h1 : Um c (pc + 1) a) (h2 : Um c (pc + 1 + 1) b) : decode c pc = .ok (.invokevirtual (a * 256 + b), 3) := by
  obtain ⟨K, hK, h182, h167, h42, h43, h44, h3, h4, h5, h6, h7, h8, h29, h46, h96, h87, h88⟩ := dwK pc
  exact dw3 (f := fun i => Instr.invokevirtual i) hK h182 hu h1 h2
theorem dq167 {c : ByteArray} {pc a b : Nat} {d : Int} (hu : Um c pc 167) (h1 : Um c (pc + 1) a) (h2 : Um c (pc + 1 + 1) b) (hd : Jvm.ClassFile.Reader.signed 16 (a * 256 + b) = d) : decode c pc = .ok (.goto d, 3) := by
  obtain ⟨K, hK, h182, h167, h42, h43, h44, h3, h4, h5, h6, h7, h8, h29, h46, h96, h87, h88⟩ := dwK pc
  exact dwg (f := fun i => Instr.goto i) hK h167 hu h1 h2 hd
def cb0 : List UInt8 := [187, 0, 7, 89, 183, 0, 9, 76, 187, 0, 10, 89, 183, 0, 12, 77, 3, 62, 29, 42, 190, 16, 6, 100, 163, 9, 137, 42, 29, 46, 16, 63, 126, 170, 0, 0, 0, 0, 9, 122, 0, 0, 0, 0, 0, 0, 0, 62, 0, 0, 1, 11, 0, 0, 1, 74, 0, 0, 1, 97, 0, 0, 1, 110]
set_option maxRecDepth 100000 in
theorem ch0 : (cL_law.data.toList.drop 0).take 64 = cb0 := by decide +kernel
def cb1 : List UInt8 := [0, 0, 1, 133, 0, 0, 1, 166, 0, 0, 1, 199, 0, 0, 1, 232, 0, 0, 2, 19, 0, 0, 2, 62, 0, 0, 2, 105, 0, 0, 2, 138, 0, 0, 2, 171, 0, 0, 2, 204, 0, 0, 2, 237, 0, 0, 3, 14, 0, 0, 3, 47, 0, 0, 3, 70, 0, 0, 3, 83, 0, 0, 3, 106]
set_option maxRecDepth 100000 in
theorem ch1 : (cL_law.data.toList.drop 64).take 64 = cb1 := by decide +kernel
def cb2 : List UInt8 := [0, 0, 3, 119, 0, 0, 3, 132, 0, 0, 3, 155, 0, 0, 3, 188, 0, 0, 3, 241, 0, 0, 4, 18, 0, 0, 4, 61, 0, 0, 4, 94, 0, 0, 4, 117, 0, 0, 4, 160, 0, 0, 4, 193, 0, 0, 4, 216, 0, 0, 4, 239, 0, 0, 4, 252, 0, 0, 5, 39, 0, 0, 5, 82]
set_option maxRecDepth 100000 in
theorem ch2 : (cL_law.data.toList.drop 128).take 64 = cb2 := by decide +kernel
def cb3 : List UInt8 := [0, 0, 5, 125, 0, 0, 5, 168, 0, 0, 5, 221, 0, 0, 6, 8, 0, 0, 6, 61, 0, 0, 6, 104, 0, 0, 6, 137, 0, 0, 6, 160, 0, 0, 6, 183, 0, 0, 6, 206, 0, 0, 6, 229, 0, 0, 7, 6, 0, 0, 7, 49, 0, 0, 7, 82, 0, 0, 7, 115, 0, 0, 7, 148]
set_option maxRecDepth 100000 in
theorem ch3 : (cL_law.data.toList.drop 192).take 64 = cb3 := by decide +kernel
def cb4 : List UInt8 := [0, 0, 7, 181, 0, 0, 7, 224, 0, 0, 8, 11, 0, 0, 8, 44, 0, 0, 8, 97, 0, 0, 8, 130, 0, 0, 8, 153, 0, 0, 8, 176, 0, 0, 8, 199, 0, 0, 8, 242, 0, 0, 9, 59, 43, 42, 29, 4, 96, 46, 42, 29, 5, 96, 46, 42, 29, 6, 96, 46, 42, 29, 7, 96]
set_option maxRecDepth 100000 in
theorem ch4 : (cL_law.data.toList.drop 256).take 64 = cb4 := by decide +kernel
def cb5 : List UInt8 := [46, 42, 29, 8, 96, 46, 182, 0, 13, 87, 44, 42, 29, 4, 96, 46, 42, 29, 5, 96, 46, 42, 29, 6, 96, 46, 42, 29, 7, 96, 46, 42, 29, 8, 96, 46, 182, 0, 17, 87, 167, 8, 51, 43, 42, 29, 4, 96, 46, 182, 0, 18, 87, 44, 42, 29, 4, 96, 46, 182, 0, 22, 87, 167]
set_option maxRecDepth 100000 in
theorem ch5 : (cL_law.data.toList.drop 320).take 64 = cb5 := by decide +kernel
def cb6 : List UInt8 := [8, 28, 43, 182, 0, 23, 87, 44, 182, 0, 27, 87, 167, 8, 15, 43, 42, 29, 4, 96, 46, 182, 0, 28, 87, 44, 42, 29, 4, 96, 46, 182, 0, 31, 87, 167, 7, 248, 43, 42, 29, 4, 96, 46, 42, 29, 5, 96, 46, 182, 0, 32, 87, 44, 42, 29, 4, 96, 46, 42, 29, 5, 96, 46]
set_option maxRecDepth 100000 in
theorem ch6 : (cL_law.data.toList.drop 384).take 64 = cb6 := by decide +kernel
def cb7 : List UInt8 := [182, 0, 36, 87, 167, 7, 215, 43, 42, 29, 4, 96, 46, 42, 29, 5, 96, 46, 182, 0, 37, 87, 44, 42, 29, 4, 96, 46, 42, 29, 5, 96, 46, 182, 0, 40, 87, 167, 7, 182, 43, 42, 29, 4, 96, 46, 42, 29, 5, 96, 46, 182, 0, 41, 87, 44, 42, 29, 4, 96, 46, 42, 29, 5]
set_option maxRecDepth 100000 in
theorem ch7 : (cL_law.data.toList.drop 448).take 64 = cb7 := by decide +kernel
def cb8 : List UInt8 := [96, 46, 182, 0, 44, 87, 167, 7, 149, 43, 42, 29, 4, 96, 46, 42, 29, 5, 96, 46, 42, 29, 6, 96, 46, 182, 0, 45, 87, 44, 42, 29, 4, 96, 46, 42, 29, 5, 96, 46, 42, 29, 6, 96, 46, 182, 0, 49, 87, 167, 7, 106, 43, 42, 29, 4, 96, 46, 42, 29, 5, 96, 46, 42]
set_option maxRecDepth 100000 in
theorem ch8 : (cL_law.data.toList.drop 512).take 64 = cb8 := by decide +kernel
def cb9 : List UInt8 := [29, 6, 96, 46, 182, 0, 50, 87, 44, 42, 29, 4, 96, 46, 42, 29, 5, 96, 46, 42, 29, 6, 96, 46, 182, 0, 53, 87, 167, 7, 63, 43, 42, 29, 4, 96, 46, 42, 29, 5, 96, 46, 42, 29, 6, 96, 46, 182, 0, 54, 87, 44, 42, 29, 4, 96, 46, 42, 29, 5, 96, 46, 42, 29]
set_option maxRecDepth 100000 in
theorem ch9 : (cL_law.data.toList.drop 576).take 64 = cb9 := by decide +kernel
def cb10 : List UInt8 := [6, 96, 46, 182, 0, 57, 87, 167, 7, 20, 43, 42, 29, 4, 96, 46, 42, 29, 5, 96, 46, 182, 0, 58, 87, 44, 42, 29, 4, 96, 46, 42, 29, 5, 96, 46, 182, 0, 61, 87, 167, 6, 243, 43, 42, 29, 4, 96, 46, 42, 29, 5, 96, 46, 182, 0, 62, 87, 44, 42, 29, 4, 96, 46]
set_option maxRecDepth 100000 in
theorem ch10 : (cL_law.data.toList.drop 640).take 64 = cb10 := by decide +kernel
def cb11 : List UInt8 := [42, 29, 5, 96, 46, 182, 0, 65, 87, 167, 6, 210, 43, 42, 29, 4, 96, 46, 42, 29, 5, 96, 46, 182, 0, 66, 87, 44, 42, 29, 4, 96, 46, 42, 29, 5, 96, 46, 182, 0, 69, 87, 167, 6, 177, 43, 42, 29, 4, 96, 46, 42, 29, 5, 96, 46, 182, 0, 70, 87, 44, 42, 29, 4]
set_option maxRecDepth 100000 in
theorem ch11 : (cL_law.data.toList.drop 704).take 64 = cb11 := by decide +kernel
def cb12 : List UInt8 := [96, 46, 42, 29, 5, 96, 46, 182, 0, 73, 87, 167, 6, 144, 43, 42, 29, 4, 96, 46, 42, 29, 5, 96, 46, 182, 0, 74, 87, 44, 42, 29, 4, 96, 46, 42, 29, 5, 96, 46, 182, 0, 77, 87, 167, 6, 111, 43, 42, 29, 4, 96, 46, 42, 29, 5, 96, 46, 182, 0, 78, 87, 44, 42]
set_option maxRecDepth 100000 in
theorem ch12 : (cL_law.data.toList.drop 768).take 64 = cb12 := by decide +kernel
def cb13 : List UInt8 := [29, 4, 96, 46, 42, 29, 5, 96, 46, 182, 0, 81, 87, 167, 6, 78, 43, 42, 29, 4, 96, 46, 182, 0, 82, 87, 44, 42, 29, 4, 96, 46, 182, 0, 85, 87, 167, 6, 55, 43, 182, 0, 86, 87, 44, 182, 0, 89, 87, 167, 6, 42, 43, 42, 29, 4, 96, 46, 182, 0, 90, 87, 44, 42]
set_option maxRecDepth 100000 in
theorem ch13 : (cL_law.data.toList.drop 832).take 64 = cb13 := by decide +kernel
def cb14 : List UInt8 := [29, 4, 96, 46, 182, 0, 93, 87, 167, 6, 19, 43, 182, 0, 94, 87, 44, 182, 0, 97, 87, 167, 6, 6, 43, 182, 0, 98, 87, 44, 182, 0, 101, 87, 167, 5, 249, 43, 42, 29, 4, 96, 46, 182, 0, 102, 87, 44, 42, 29, 4, 96, 46, 182, 0, 105, 87, 167, 5, 226, 43, 42, 29, 4]
set_option maxRecDepth 100000 in
theorem ch14 : (cL_law.data.toList.drop 896).take 64 = cb14 := by decide +kernel
def cb15 : List UInt8 := [96, 46, 42, 29, 5, 96, 46, 182, 0, 106, 87, 44, 42, 29, 4, 96, 46, 42, 29, 5, 96, 46, 182, 0, 109, 87, 167, 5, 193, 43, 42, 29, 4, 96, 46, 42, 29, 5, 96, 46, 42, 29, 6, 96, 46, 42, 29, 7, 96, 46, 182, 0, 110, 87, 44, 42, 29, 4, 96, 46, 42, 29, 5, 96]
set_option maxRecDepth 100000 in
theorem ch15 : (cL_law.data.toList.drop 960).take 64 = cb15 := by decide +kernel
def cb16 : List UInt8 := [46, 42, 29, 6, 96, 46, 42, 29, 7, 96, 46, 182, 0, 114, 87, 167, 5, 140, 43, 42, 29, 4, 96, 46, 42, 29, 5, 96, 46, 182, 0, 115, 87, 44, 42, 29, 4, 96, 46, 42, 29, 5, 96, 46, 182, 0, 118, 87, 167, 5, 107, 43, 42, 29, 4, 96, 46, 42, 29, 5, 96, 46, 42, 29]
set_option maxRecDepth 100000 in
theorem ch16 : (cL_law.data.toList.drop 1024).take 64 = cb16 := by decide +kernel
def cb17 : List UInt8 := [6, 96, 46, 182, 0, 119, 87, 44, 42, 29, 4, 96, 46, 42, 29, 5, 96, 46, 42, 29, 6, 96, 46, 182, 0, 122, 87, 167, 5, 64, 43, 42, 29, 4, 96, 46, 42, 29, 5, 96, 46, 182, 0, 123, 87, 44, 42, 29, 4, 96, 46, 42, 29, 5, 96, 46, 182, 0, 126, 87, 167, 5, 31, 43]
set_option maxRecDepth 100000 in
theorem ch17 : (cL_law.data.toList.drop 1088).take 64 = cb17 := by decide +kernel
def cb18 : List UInt8 := [42, 29, 4, 96, 46, 182, 0, 127, 87, 44, 42, 29, 4, 96, 46, 182, 0, 130, 87, 167, 5, 8, 43, 42, 29, 4, 96, 46, 42, 29, 5, 96, 46, 42, 29, 6, 96, 46, 182, 0, 131, 87, 44, 42, 29, 4, 96, 46, 42, 29, 5, 96, 46, 42, 29, 6, 96, 46, 182, 0, 134, 87, 167, 4]
set_option maxRecDepth 100000 in
theorem ch18 : (cL_law.data.toList.drop 1152).take 64 = cb18 := by decide +kernel
def cb19 : List UInt8 := [221, 43, 42, 29, 4, 96, 46, 42, 29, 5, 96, 46, 182, 0, 135, 87, 44, 42, 29, 4, 96, 46, 42, 29, 5, 96, 46, 182, 0, 138, 87, 167, 4, 188, 43, 42, 29, 4, 96, 46, 182, 0, 139, 87, 44, 42, 29, 4, 96, 46, 182, 0, 142, 87, 167, 4, 165, 43, 42, 29, 4, 96, 46, 182]
set_option maxRecDepth 100000 in
theorem ch19 : (cL_law.data.toList.drop 1216).take 64 = cb19 := by decide +kernel
def cb20 : List UInt8 := [0, 143, 87, 44, 42, 29, 4, 96, 46, 182, 0, 146, 87, 167, 4, 142, 43, 182, 0, 147, 87, 44, 182, 0, 150, 87, 167, 4, 129, 43, 42, 29, 4, 96, 46, 42, 29, 5, 96, 46, 42, 29, 6, 96, 46, 182, 0, 151, 88, 44, 42, 29, 4, 96, 46, 42, 29, 5, 96, 46, 42, 29, 6, 96]
set_option maxRecDepth 100000 in
theorem ch20 : (cL_law.data.toList.drop 1280).take 64 = cb20 := by decide +kernel
def cb21 : List UInt8 := [46, 182, 0, 155, 88, 167, 4, 86, 43, 42, 29, 4, 96, 46, 42, 29, 5, 96, 46, 42, 29, 6, 96, 46, 182, 0, 156, 88, 44, 42, 29, 4, 96, 46, 42, 29, 5, 96, 46, 42, 29, 6, 96, 46, 182, 0, 159, 88, 167, 4, 43, 43, 42, 29, 4, 96, 46, 42, 29, 5, 96, 46, 42, 29]
set_option maxRecDepth 100000 in
theorem ch21 : (cL_law.data.toList.drop 1344).take 64 = cb21 := by decide +kernel
def cb22 : List UInt8 := [6, 96, 46, 182, 0, 160, 88, 44, 42, 29, 4, 96, 46, 42, 29, 5, 96, 46, 42, 29, 6, 96, 46, 182, 0, 163, 88, 167, 4, 0, 43, 42, 29, 4, 96, 46, 42, 29, 5, 96, 46, 42, 29, 6, 96, 46, 182, 0, 164, 87, 44, 42, 29, 4, 96, 46, 42, 29, 5, 96, 46, 42, 29, 6]
set_option maxRecDepth 100000 in
theorem ch22 : (cL_law.data.toList.drop 1408).take 64 = cb22 := by decide +kernel
def cb23 : List UInt8 := [96, 46, 182, 0, 167, 87, 167, 3, 213, 43, 42, 29, 4, 96, 46, 42, 29, 5, 96, 46, 42, 29, 6, 96, 46, 42, 29, 7, 96, 46, 182, 0, 168, 87, 44, 42, 29, 4, 96, 46, 42, 29, 5, 96, 46, 42, 29, 6, 96, 46, 42, 29, 7, 96, 46, 182, 0, 171, 87, 167, 3, 160, 43, 42]
set_option maxRecDepth 100000 in
theorem ch23 : (cL_law.data.toList.drop 1472).take 64 = cb23 := by decide +kernel
def cb24 : List UInt8 := [29, 4, 96, 46, 42, 29, 5, 96, 46, 42, 29, 6, 96, 46, 182, 0, 172, 87, 44, 42, 29, 4, 96, 46, 42, 29, 5, 96, 46, 42, 29, 6, 96, 46, 182, 0, 175, 87, 167, 3, 117, 43, 42, 29, 4, 96, 46, 42, 29, 5, 96, 46, 42, 29, 6, 96, 46, 42, 29, 7, 96, 46, 182, 0]
set_option maxRecDepth 100000 in
theorem ch24 : (cL_law.data.toList.drop 1536).take 64 = cb24 := by decide +kernel
def cb25 : List UInt8 := [176, 87, 44, 42, 29, 4, 96, 46, 42, 29, 5, 96, 46, 42, 29, 6, 96, 46, 42, 29, 7, 96, 46, 182, 0, 179, 87, 167, 3, 64, 43, 42, 29, 4, 96, 46, 42, 29, 5, 96, 46, 42, 29, 6, 96, 46, 182, 0, 180, 87, 44, 42, 29, 4, 96, 46, 42, 29, 5, 96, 46, 42, 29, 6]
set_option maxRecDepth 100000 in
theorem ch25 : (cL_law.data.toList.drop 1600).take 64 = cb25 := by decide +kernel
def cb26 : List UInt8 := [96, 46, 182, 0, 183, 87, 167, 3, 21, 43, 42, 29, 4, 96, 46, 42, 29, 5, 96, 46, 182, 0, 184, 87, 44, 42, 29, 4, 96, 46, 42, 29, 5, 96, 46, 182, 0, 187, 87, 167, 2, 244, 43, 42, 29, 4, 96, 46, 182, 0, 188, 87, 44, 42, 29, 4, 96, 46, 182, 0, 191, 87, 167, 2]
set_option maxRecDepth 100000 in
theorem ch26 : (cL_law.data.toList.drop 1664).take 64 = cb26 := by decide +kernel
def cb27 : List UInt8 := [221, 43, 42, 29, 4, 96, 46, 182, 0, 192, 87, 44, 42, 29, 4, 96, 46, 182, 0, 195, 87, 167, 2, 198, 43, 42, 29, 4, 96, 46, 182, 0, 196, 87, 44, 42, 29, 4, 96, 46, 182, 0, 199, 87, 167, 2, 175, 43, 42, 29, 4, 96, 46, 182, 0, 200, 87, 44, 42, 29, 4, 96, 46, 182]
set_option maxRecDepth 100000 in
theorem ch27 : (cL_law.data.toList.drop 1728).take 64 = cb27 := by decide +kernel
def cb28 : List UInt8 := [0, 203, 87, 167, 2, 152, 43, 42, 29, 4, 96, 46, 42, 29, 5, 96, 46, 182, 0, 204, 87, 44, 42, 29, 4, 96, 46, 42, 29, 5, 96, 46, 182, 0, 207, 87, 167, 2, 119, 43, 42, 29, 4, 96, 46, 42, 29, 5, 96, 46, 42, 29, 6, 96, 46, 182, 0, 208, 88, 44, 42, 29, 4, 96]
set_option maxRecDepth 100000 in
theorem ch28 : (cL_law.data.toList.drop 1792).take 64 = cb28 := by decide +kernel
def cb29 : List UInt8 := [46, 42, 29, 5, 96, 46, 42, 29, 6, 96, 46, 182, 0, 211, 88, 167, 2, 76, 43, 42, 29, 4, 96, 46, 42, 29, 5, 96, 46, 182, 0, 212, 87, 44, 42, 29, 4, 96, 46, 42, 29, 5, 96, 46, 182, 0, 215, 87, 167, 2, 43, 43, 42, 29, 4, 96, 46, 42, 29, 5, 96, 46, 182, 0]
set_option maxRecDepth 100000 in
theorem ch29 : (cL_law.data.toList.drop 1856).take 64 = cb29 := by decide +kernel
def cb30 : List UInt8 := [216, 87, 44, 42, 29, 4, 96, 46, 42, 29, 5, 96, 46, 182, 0, 219, 87, 167, 2, 10, 43, 42, 29, 4, 96, 46, 42, 29, 5, 96, 46, 182, 0, 220, 87, 44, 42, 29, 4, 96, 46, 42, 29, 5, 96, 46, 182, 0, 223, 87, 167, 1, 233, 43, 42, 29, 4, 96, 46, 42, 29, 5, 96, 46]
set_option maxRecDepth 100000 in
theorem ch30 : (cL_law.data.toList.drop 1920).take 64 = cb30 := by decide +kernel
def cb31 : List UInt8 := [182, 0, 224, 87, 44, 42, 29, 4, 96, 46, 42, 29, 5, 96, 46, 182, 0, 227, 87, 167, 1, 200, 43, 42, 29, 4, 96, 46, 42, 29, 5, 96, 46, 42, 29, 6, 96, 46, 182, 0, 228, 87, 44, 42, 29, 4, 96, 46, 42, 29, 5, 96, 46, 42, 29, 6, 96, 46, 182, 0, 231, 87, 167, 1]
set_option maxRecDepth 100000 in
theorem ch31 : (cL_law.data.toList.drop 1984).take 64 = cb31 := by decide +kernel
def cb32 : List UInt8 := [157, 43, 42, 29, 4, 96, 46, 42, 29, 5, 96, 46, 42, 29, 6, 96, 46, 182, 0, 232, 87, 44, 42, 29, 4, 96, 46, 42, 29, 5, 96, 46, 42, 29, 6, 96, 46, 182, 0, 235, 87, 167, 1, 114, 43, 42, 29, 4, 96, 46, 42, 29, 5, 96, 46, 182, 0, 236, 87, 44, 42, 29, 4, 96]
set_option maxRecDepth 100000 in
theorem ch32 : (cL_law.data.toList.drop 2048).take 64 = cb32 := by decide +kernel
def cb33 : List UInt8 := [46, 42, 29, 5, 96, 46, 182, 0, 239, 87, 167, 1, 81, 43, 42, 29, 4, 96, 46, 42, 29, 5, 96, 46, 42, 29, 6, 96, 46, 42, 29, 7, 96, 46, 182, 0, 240, 87, 44, 42, 29, 4, 96, 46, 42, 29, 5, 96, 46, 42, 29, 6, 96, 46, 42, 29, 7, 96, 46, 182, 0, 243, 87, 167]
set_option maxRecDepth 100000 in
theorem ch33 : (cL_law.data.toList.drop 2112).take 64 = cb33 := by decide +kernel
def cb34 : List UInt8 := [1, 28, 43, 42, 29, 4, 96, 46, 42, 29, 5, 96, 46, 182, 0, 244, 87, 44, 42, 29, 4, 96, 46, 42, 29, 5, 96, 46, 182, 0, 247, 87, 167, 0, 251, 43, 42, 29, 4, 96, 46, 182, 0, 248, 87, 44, 42, 29, 4, 96, 46, 182, 0, 251, 87, 167, 0, 228, 43, 42, 29, 4, 96, 46]
set_option maxRecDepth 100000 in
theorem ch34 : (cL_law.data.toList.drop 2176).take 64 = cb34 := by decide +kernel
def cb35 : List UInt8 := [182, 0, 252, 87, 44, 42, 29, 4, 96, 46, 182, 0, 255, 87, 167, 0, 205, 43, 42, 29, 4, 96, 46, 182, 1, 0, 87, 44, 42, 29, 4, 96, 46, 182, 1, 3, 87, 167, 0, 182, 43, 42, 29, 4, 96, 46, 42, 29, 5, 96, 46, 42, 29, 6, 96, 46, 182, 1, 4, 87, 44, 42, 29, 4]
set_option maxRecDepth 100000 in
theorem ch35 : (cL_law.data.toList.drop 2240).take 64 = cb35 := by decide +kernel
def cb36 : List UInt8 := [96, 46, 42, 29, 5, 96, 46, 42, 29, 6, 96, 46, 182, 1, 7, 87, 167, 0, 139, 43, 42, 29, 4, 96, 46, 42, 29, 5, 96, 46, 42, 29, 6, 96, 46, 133, 16, 32, 121, 42, 29, 7, 96, 46, 133, 20, 1, 8, 127, 129, 182, 1, 10, 87, 44, 42, 29, 4, 96, 46, 42, 29, 5, 96]
set_option maxRecDepth 100000 in
theorem ch36 : (cL_law.data.toList.drop 2304).take 64 = cb36 := by decide +kernel
def cb37 : List UInt8 := [46, 42, 29, 6, 96, 46, 133, 16, 32, 121, 42, 29, 7, 96, 46, 133, 20, 1, 8, 127, 129, 182, 1, 14, 87, 167, 0, 66, 43, 42, 29, 4, 96, 46, 42, 29, 5, 96, 46, 42, 29, 6, 96, 46, 42, 29, 7, 96, 46, 42, 29, 8, 96, 46, 182, 1, 15, 44, 42, 29, 4, 96, 46, 42]
set_option maxRecDepth 100000 in
theorem ch37 : (cL_law.data.toList.drop 2368).take 64 = cb37 := by decide +kernel
def cb38 : List UInt8 := [29, 5, 96, 46, 42, 29, 6, 96, 46, 42, 29, 7, 96, 46, 42, 29, 8, 96, 46, 182, 1, 18, 159, 0, 5, 3, 172, 132, 3, 6, 167, 246, 116, 4, 172]
set_option maxRecDepth 100000 in
theorem ch38 : (cL_law.data.toList.drop 2432).take 64 = cb38 := by decide +kernel
