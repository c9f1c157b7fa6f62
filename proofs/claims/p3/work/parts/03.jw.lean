def jw : List Cond := lw_tbl.filter goodWord
abbrev jk (y : MethodName) (c : ByteArray) (n : Nat) (r : Option FieldType) : List Cond := .code y c n r :: jw
theorem jm {w a : Cond} (h : w ∈ jw) : w ∈ a :: jw := List.mem_cons_of_mem _ h
theorem jh {ws : List Cond} {a : Cond} (h : ∀ w ∈ ws, w ∈ jw) : ∀ w ∈ ws, w ∈ a :: jw := fun w hw => List.mem_cons_of_mem _ (h w hw)
theorem jin {w : Cond} (h : w ∈ lw_tbl) (g : goodWord w = true) : w ∈ jw := List.mem_filter.mpr ⟨h, g⟩
theorem jpos {big : List Cond} {ps : List Nat} {w : Cond} (h : w ∈ ps.filterMap (fun i => big[i]?)) : w ∈ big := by
  obtain ⟨i, -, hi⟩ := List.mem_filterMap.mp h
  exact List.mem_of_getElem? hi
theorem jgood0 {big : List Cond} {c2 : Cond} (hb : ∀ w ∈ jw, w ∈ big) (h : c2 ∈ jw) : GoodIn big (c2 :: jw) := fun w hw => by
  have h1 : w ∈ jw := (List.mem_cons.mp hw).elim (fun e => e ▸ h) id
  exact ⟨hb w h1, good_of_word (List.mem_filter.mp h1).2⟩
theorem jgoodC {big : List Cond} (hb : ∀ w ∈ jw, w ∈ big) {l : List Cond} (hl : ∀ w ∈ l, w ∈ jw) {ws : List Cond} (h : GoodIn big ws) : GoodIn big (l ++ ws) := fun w hw => (List.mem_append.mp hw).elim (fun z => ⟨hb w (hl w z), good_of_word (List.mem_filter.mp (hl w z)).2⟩) (fun z => h w z)
theorem jtl {a : Cond} : ∀ w ∈ jw, w ∈ a :: jw := fun _ h => List.mem_cons_of_mem _ h
theorem jlw : ∀ w ∈ jw, w ∈ lw_tbl := fun _ h => (List.mem_filter.mp h).1
theorem jgoodI {a c2 : Cond} (h : c2 ∈ jw) : GoodIn (a :: jw) (c2 :: jw) := jgood0 jtl h
theorem jgoodIL {c2 : Cond} (h : c2 ∈ jw) : GoodIn lw_tbl (c2 :: jw) := jgood0 jlw h
theorem jl4 {a b c d : Cond} (h1 : a ∈ jw) (h2 : b ∈ jw) (h3 : c ∈ jw) (h4 : d ∈ jw) : ∀ w ∈ ([a, b, c, d] : List Cond), w ∈ jw := by
  intro w hw
  simp only [List.mem_cons, List.not_mem_nil, or_false] at hw
  rcases hw with rfl | rfl | rfl | rfl <;> assumption
theorem jl3 {a b c : Cond} (h1 : a ∈ jw) (h2 : b ∈ jw) (h3 : c ∈ jw) : ∀ w ∈ ([a, b, c] : List Cond), w ∈ jw := by
  intro w hw
  simp only [List.mem_cons, List.not_mem_nil, or_false] at hw
  rcases hw with rfl | rfl | rfl <;> assumption
theorem jgoodV {a c2 : Cond} {own C : String} {idx : Nat} {y : MethodName} (h1 : .methodLink own idx y ∈ jw) (h2 : .instanceMethod y ∈ jw) (h3 : .selects C y y ∈ jw) (h4 : .initialized C ∈ jw) (h : c2 ∈ jw) : GoodIn (a :: jw) (wsV own idx C y (c2 :: jw)) := jgoodC jtl (jl4 h1 h2 h3 h4) (jgoodI h)
theorem jgoodVL {c2 : Cond} {own C : String} {idx : Nat} {y : MethodName} (h1 : .methodLink own idx y ∈ jw) (h2 : .instanceMethod y ∈ jw) (h3 : .selects C y y ∈ jw) (h4 : .initialized C ∈ jw) (h : c2 ∈ jw) : GoodIn lw_tbl (wsV own idx C y (c2 :: jw)) := jgoodC jlw (jl4 h1 h2 h3 h4) (jgoodIL h)
theorem jgoodS {a c2 : Cond} {own : String} {idx : Nat} {y : MethodName} (h1 : .methodLink own idx y ∈ jw) (h2 : .static y ∈ jw) (h4 : .initialized y.cls ∈ jw) (h : c2 ∈ jw) : GoodIn (a :: jw) (va_wsS own idx y (c2 :: jw)) := jgoodC jtl (jl3 h1 h2 h4) (jgoodI h)
