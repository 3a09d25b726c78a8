/-! lists of words that are laid out of lists -/
theorem g_4 {big : List Cond} {a b c d : Cond} (ha : a ∈ big) (hb : b ∈ big) (hc : c ∈ big) (hd : d ∈ big) (h : ([a, b, c, d] : List Cond).all goodWord = true) : GoodIn big [a, b, c, d] := goodIn_sub (fun w hw => by
  simp only [List.mem_cons, List.not_mem_nil, or_false] at hw
  rcases hw with rfl | rfl | rfl | rfl <;> assumption) h
theorem g_3 {big : List Cond} {a b c : Cond} (ha : a ∈ big) (hb : b ∈ big) (hc : c ∈ big) (h : ([a, b, c] : List Cond).all goodWord = true) : GoodIn big [a, b, c] := goodIn_sub (fun w hw => by
  simp only [List.mem_cons, List.not_mem_nil, or_false] at hw
  rcases hw with rfl | rfl | rfl <;> assumption) h
theorem ga_c {c : Cond} {l : List Cond} (h : goodWord c = true) (h2 : l.all goodWord = true) : (c :: l).all goodWord = true := by rw [List.all_cons, h, h2]; rfl
theorem ga_a {a b : List Cond} (h : a.all goodWord = true) (h2 : b.all goodWord = true) : (a ++ b).all goodWord = true := by rw [List.all_append, h, h2]; rfl
theorem good_wsX00 : wsX00.all goodWord = true := by decide +kernel
theorem good_wsX10 : wsX10.all goodWord = true := by decide +kernel
theorem good_wsX20 : wsX20.all goodWord = true := by decide +kernel
theorem good_wsX30 : wsX30.all goodWord = true := by decide +kernel
theorem good_wsX40 : wsX40.all goodWord = true := by decide +kernel
theorem good_wsX50 : wsX50.all goodWord = true := by decide +kernel
theorem good_wsX60 : wsX60.all goodWord = true := by decide +kernel
theorem good_wsX70 : wsX70.all goodWord = true := by decide +kernel
theorem good_wsX80 : wsX80.all goodWord = true := by decide +kernel
theorem good_wsX90 : wsX90.all goodWord = true := by decide +kernel
theorem good_wsX110 : wsX110.all goodWord = true := by decide +kernel
theorem good_wsX120 : wsX120.all goodWord = true := by decide +kernel
