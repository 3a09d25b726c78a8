/-! what stands around a call: the nest mates' links, the constant texts -/
def sLen : List Nat := [6, 4, 4, 6, 4, 5, 4, 5, 4, 4, 4, 7, 7, 5]
def sIx : List Nat := [57, 73, 78, 83, 88, 98, 110, 115, 125, 129, 133, 139, 143, 157]
def sTx : List String := ["person", "pair", "lost", "strike", "dies", "moves", "land", "years", "card", "hurt", "rule", "returns", "forgets", "begun"]
def sByt : List (List Int32) := [[112, 101, 114, 115, 111, 110], [112, 97, 105, 114], [108, 111, 115, 116], [115, 116, 114, 105, 107, 101], [100, 105, 101, 115], [109, 111, 118, 101, 115], [108, 97, 110, 100], [121, 101, 97, 114, 115], [99, 97, 114, 100], [104, 117, 114, 116], [114, 117, 108, 101], [114, 101, 116, 117, 114, 110, 115], [102, 111, 114, 103, 101, 116, 115], [98, 101, 103, 117, 110]]
def sL (i : Nat) : Nat := sLen.getD i 0
def sB (i : Nat) : List Int32 := sByt.getD i []
theorem sL_b : ∀ i, sL i ≤ 16
  | 0 => by decide
  | 1 => by decide
  | 2 => by decide
  | 3 => by decide
  | 4 => by decide
  | 5 => by decide
  | 6 => by decide
  | 7 => by decide
  | 8 => by decide
  | 9 => by decide
  | 10 => by decide
  | 11 => by decide
  | 12 => by decide
  | 13 => by decide
  | n + 14 => Nat.zero_le _
theorem sL_r (i : Nat) : ir (sL i : Int) 0 16 := ⟨Int.natCast_nonneg _, by have := sL_b i; omega⟩
theorem sL_z (i : Nat) : (nI (sL i)).toInt = (sL i : Int) := nI_toInt (by have := sL_b i; omega)
/-- the texts and the statics that are read, as they stand outside A -/
def SS (kA vA : Nat → Nat) (A : Nat → Prop) (U : State) (H : Heap) : Prop :=
  vk_S 14 sLen sByt kA vA A U H ∧ va_Z "java/lang/String" "COMPACT_STRINGS" "Z" (.int 1) A U H ∧ (∃ v : Value, va_Z "jdk/internal/util/Preconditions" "SIOOBE_FORMATTER" "Ljava/util/function/BiFunction;" v A U H ∧ (v = .null ∨ ∃ a : Nat, v = .ref a))
theorem SS.moved {kA vA : Nat → Nat} {A : Nat → Prop} {u U : State} {H : Heap} (hvm : u.vm.Alike U.vm) (h : SS kA vA A u H) : SS kA vA A U H := by
  obtain ⟨h1, h2, v, h3, h4⟩ := h
  exact ⟨h1.moved hvm, h2.moved hvm, v, h3.moved hvm, h4⟩
theorem SS.kept {kA vA : Nat → Nat} {A : Nat → Prop} {U : State} {H H1 : Heap} (h : SS kA vA A U H) (hq : ∀ a : Nat, a < H.size → ¬ A a → H1[a]? = H[a]?) : SS kA vA A U H1 := by
  obtain ⟨h1, h2, v, h3, h4⟩ := h
  exact ⟨h1.kept hq, h2.kept hq, v, h3.kept hq, h4⟩
theorem SS.narrow {kA vA : Nat → Nat} {A B : Nat → Prop} {U : State} {H : Heap} (h : SS kA vA A U H) (hAB : ∀ q, B q → A q) : SS kA vA B U H := by
  obtain ⟨h1, h2, v, h3, h4⟩ := h
  exact ⟨h1.narrow hAB, h2.narrow hAB, v, h3.narrow hAB, h4⟩
def ENV (kA vA : Nat → Nat) (A : Nat → Prop) (U : State) : Prop := nX lwN U ∧ SS kA vA A U U.heap ∧ ∀ i, i < 14 → vk_R RX8 (sIx.getD i 0) (sTx.getD i "") (kA i) U
theorem ENV.fb {kA vA : Nat → Nat} {A : Nat → Prop} {U : State} (h : ENV kA vA A U) (gg : JFrame) (mk : MethodId) (a : Array Value) : ENV kA vA A (U.calling gg mk a) := by
  obtain ⟨h1, h2, h3⟩ := h
  exact ⟨⟨fun w hw => va_Nw.same rfl rfl (h1.1 w hw), va_AO.moved (u := U) (U := U.calling gg mk a) (Vm.Alike.refl U.vm) h1.2⟩, SS.moved (u := U) (U := U.calling gg mk a) (Vm.Alike.refl U.vm) h2, fun i hi => vk_R.same rfl (h3 i hi)⟩
theorem ENV.move {kA vA : Nat → Nat} {A B : Nat → Prop} {s U : State} {H : Heap} {locs : List Loc} (h : ENV kA vA A s) (hS : va_S A s.heap H locs) (hB : ∀ q, B q → A q) (hU : U.heap = H) (hW : s.WarmedH U.vm) : ENV kA vA B U := by
  obtain ⟨h1, h2, h3⟩ := h
  refine ⟨nX_moved hW h1, ?_, fun i hi => (h3 i hi).warm hW⟩
  rw [hU]
  exact ((h2.kept hS.2.1).narrow hB).moved hW.alike
theorem ENV.nest {kA vA : Nat → Nat} {A : Nat → Prop} {U : State} (h : ENV kA vA A U) (q : String × Nat × MethodName × String) (hq : q ∈ lwN) : va_Nw (.methodLinkNest q.1 q.2.1 q.2.2.1 q.2.2.2) U := h.1.1 q hq
theorem ENV.str {kA vA : Nat → Nat} {A : Nat → Prop} {U : State} (h : ENV kA vA A U) (i : Nat) (hi : i < 14) : vk_R RX8 (sIx.getD i 0) (sTx.getD i "") (kA i) U := h.2.2 i hi
theorem ENV.cs {kA vA : Nat → Nat} {A : Nat → Prop} {U : State} (h : ENV kA vA A U) : va_Z "java/lang/String" "COMPACT_STRINGS" "Z" (.int 1) A U U.heap := h.2.1.2.1
theorem ENV.fm {kA vA : Nat → Nat} {A : Nat → Prop} {U : State} (h : ENV kA vA A U) : ∃ v : Value, va_Z "jdk/internal/util/Preconditions" "SIOOBE_FORMATTER" "Ljava/util/function/BiFunction;" v A U U.heap ∧ (v = .null ∨ ∃ a : Nat, v = .ref a) := h.2.1.2.2
theorem ENV.cod {kA vA : Nat → Nat} {A : Nat → Prop} {U : State} (h : ENV kA vA A U) (i : Nat) (hi : i < 14) : va_OF "java/lang/String" "coder" "B" (.int 0) (kA i) A U U.heap := (h.2.1.1.1 i hi).2.1
theorem ENV.val {kA vA : Nat → Nat} {A : Nat → Prop} {U : State} (h : ENV kA vA A U) (i : Nat) (hi : i < 14) : va_OF "java/lang/String" "value" "[B" (.ref (vA i)) (kA i) A U U.heap := (h.2.1.1.1 i hi).2.2.1
theorem ENV.arr {kA vA : Nat → Nat} {A : Nat → Prop} {U : State} (h : ENV kA vA A U) (i : Nat) (hi : i < 14) : va_T .byte (vA i) (sL i) (fun j => .int ((sB i).getD j 0)) A U U.heap := (h.2.1.1.1 i hi).2.2.2
def eRO (g : va_G) (T : List (ClassId × FieldType)) (ws : va_W) (sz : Nat) (kA vA : Nat → Nat) (U : State) : Prop := pRO g T ws sz U ∧ ENV kA vA (va_A [] sz) U
def eRW (g : va_G) (T : List (ClassId × FieldType)) (ws : va_W) (sz : Nat) (kA vA : Nat → Nat) (U : State) : Prop := pRW g T ws sz U ∧ ENV kA vA (va_A ws sz) U
theorem eRO_fb {g : va_G} {T : List (ClassId × FieldType)} {ws : va_W} {sz : Nat} {kA vA : Nat → Nat} {av : List Value} : FrameBlind (va_Pc av (eRO g T ws sz kA vA)) := fun a U gg mk q => ⟨q.1, (pRO_fb a U gg mk ⟨q.1, q.2.1⟩).2, q.2.2.fb gg mk a⟩
theorem eRW_fb {g : va_G} {T : List (ClassId × FieldType)} {ws : va_W} {sz : Nat} {kA vA : Nat → Nat} {av : List Value} : FrameBlind (va_Pc av (eRW g T ws sz kA vA)) := fun a U gg mk q => ⟨q.1, (pRW_fb a U gg mk ⟨q.1, q.2.1⟩).2, q.2.2.fb gg mk a⟩
section ENVS
variable {s : State} {H : Heap} {g : va_G} {T : List (ClassId × FieldType)} {ws wc : va_W} {As : List Value} {A0 : Nat → Prop} {kA vA : Nat → Nat} {locs : List Loc} {b : Addr} {C : String}
theorem psE_RO (hp : PreS s H (va_Pc As (pRO g T wc H.size)) As) (hE : ENV kA vA A0 s) (hS : va_S A0 s.heap H locs) (hA : ∀ q : Nat, s.heap.size ≤ q → A0 q) : PreS s H (va_Pc As (eRO g T wc H.size kA vA)) As :=
  ⟨eRO_fb, fun U hU hW => ⟨rfl, (hp.2 U hU hW).2, hE.move hS (ro_A hS hA) hU hW⟩⟩
theorem pvE_RO (hp : PreV s H C b (va_Pc (.ref b :: As) (pRO g T wc H.size)) As) (hE : ENV kA vA A0 s) (hS : va_S A0 s.heap H locs) (hA : ∀ q : Nat, s.heap.size ≤ q → A0 q) : PreV s H C b (va_Pc (.ref b :: As) (eRO g T wc H.size kA vA)) As :=
  ⟨eRO_fb, hp.2.1, fun U hU hW => ⟨rfl, (hp.2.2 U hU hW).2, hE.move hS (ro_A hS hA) hU hW⟩⟩
theorem psE_RW (hp : PreS s H (va_Pc As (pRW g T wc H.size)) As) (hE : ENV kA vA A0 s) (hS : va_S A0 s.heap H locs) (hB : ∀ q, va_A wc H.size q → A0 q) : PreS s H (va_Pc As (eRW g T wc H.size kA vA)) As :=
  ⟨eRW_fb, fun U hU hW => ⟨rfl, (hp.2 U hU hW).2, hE.move hS hB hU hW⟩⟩
theorem pvE_RW (hp : PreV s H C b (va_Pc (.ref b :: As) (pRW g T wc H.size)) As) (hE : ENV kA vA A0 s) (hS : va_S A0 s.heap H locs) (hB : ∀ q, va_A wc H.size q → A0 q) : PreV s H C b (va_Pc (.ref b :: As) (eRW g T wc H.size kA vA)) As :=
  ⟨eRW_fb, hp.2.1, fun U hU hW => ⟨rfl, (hp.2.2 U hU hW).2, hE.move hS hB hU hW⟩⟩
theorem pvS (hK : va_K g vwCl T s) (hE : ENV kA vA A0 s) {i : Nat} (hi : i < 14) (hS : va_S A0 s.heap H locs) (hA : ∀ q : Nat, s.heap.size ≤ q → A0 q) : PreV s H "java/lang/String" (kA i) (va_Pc (.ref (kA i) :: As) (eRO g T [] H.size kA vA)) As :=
  ⟨eRO_fb, vk_recv hE.2.1.1 hi hS, fun U hU hW => ⟨rfl, ⟨by rw [hU], fun k q h => by simp at h, va_K.moved hW.alike hK⟩, hE.move hS (ro_A hS hA) hU hW⟩⟩
theorem pv_RO0 {ci q0 : Nat} {q : vw_C} {fs : List Value} (hK : va_K g vwCl T s) (hP : va_P g vwCl ws H) (is : List Nat) (hs : is.filterMap (fun i => ws[i]?) = wc) (hc : vwCl[ci]? = some q) (he : ws[q0]? = some (b, .inr (ci, fs))) : PreV s H q.1 b (va_Pc (.ref b :: As) (pRO g T wc H.size)) As :=
  ⟨pRO_fb, va_recv hK hP hc he, fun U hU hW => ⟨rfl, by rw [hU], by rw [hU]; exact hP.sub is hs, va_K.moved hW.alike hK⟩⟩
end ENVS
section CALLS2
variable {p : Program} {l : Launch} {e : Env} {R : Room} {s : State} {m : MethodId} {args : Array Value} {below : List Frame} {meth : Method} {c : Code} {H : Heap} {locs : List Loc} {cells slots : Nat} {Q : State → Prop}
variable {pc : Nat} {ls : Array Slot} {rest st0 : List Value} {a : Array Value} {A0 : Nat → Prop} {H0 : Heap} {mc ms : Nat} {g : va_G} {T : List (ClassId × FieldType)} {ws wc wr : va_W}
theorem ro_v {S : Type} {post : S → Prop} {B : S → State → Prop} (hr : va_Run p l e R s m args below meth c H locs cells slots mc ms (F0 m pc ls st0) rest (va_Qv post B (va_A [] H.size) a) (va_A [] H.size)) (hS : va_S A0 H0 H locs) (hA : ∀ q, H0.size ≤ q → A0 q) (hP : va_P g vwCl ws H)
    (kk : ∀ (u : S) (H1 : Heap) (locs1 : List Loc), post u → va_P g vwCl ws H1 → va_S A0 H0 H1 locs1 → W p l e R s m args below meth c H1 locs1 (cells + mc) (slots + ms) Q (F0 m (pc + 3) ls rest)) : W p l e R s m args below meth c H locs cells slots Q (F0 m pc ls st0) :=
  va_callv hr hS (fun q _ h => ro_A hS hA q h) (ro_A hS hA) (fun u t H1 locs1 ht hvm hw hB hz hk hS1 => kk u H1 locs1 hw (ro_keep hP hk) hS1)
theorem rw_r {S : Type} {post : S → Prop} {W1 : S → va_W} {rq : Nat} (hr : va_Run p l e R s m args below meth c H locs cells slots mc ms (F0 m pc ls st0) rest (va_Qr post (fun u ra t => ra = rq ∧ bRW g T (va_A wc H.size) (W1 u) t) (va_A wc H.size) a) (va_A wc H.size)) (hS : va_S A0 H0 H locs) (hA : ∀ q, H0.size ≤ q → A0 q) (hP : va_P g vwCl ws H) (hD : va_D A0 ws)
    (isC isR : List Nat) (hC : isC.map (fun i => ws[i]?) = wc.map some) (hR : isR.map (fun i => ws[i]?) = wr.map some) (hn : va_nd isR = true) (hdis : ∀ i ∈ isR, i ∉ isC)
    (kk : ∀ (u : S) (H1 : Heap) (locs1 : List Loc), post u → va_P g vwCl (wr ++ W1 u) H1 → va_D A0 (wr ++ W1 u) → va_S A0 H0 H1 locs1 → W p l e R s m args below meth c H1 locs1 (cells + mc) (slots + ms) Q (F0 m (pc + 3) ls (.ref rq :: rest))) : W p l e R s m args below meth c H locs cells slots Q (F0 m pc ls st0) :=
  va_callr hr hS (fun q _ h => va_free hD hS hA isC hC q h) (va_free hD hS hA isC hC) (fun u ra t H1 locs1 ht hvm hw hB hz hk hS1 => by
    obtain ⟨hra, hP1, hK1, hD1⟩ := hB
    subst hra
    rw [ht] at hP1
    obtain ⟨hP2, hD2⟩ := va_join hP hD isC isR hC hR hn hdis hk (va_free hD hS hA isC hC) hP1 hD1
    exact kk u H1 locs1 hw hP2 hD2 hS1)
end CALLS2
