set_option maxRecDepth 100000 in
theorem n_0 : (.arrayOver (.object RX9) : Cond) ∈ lw_tbl := jt_1 _ (List.mem_of_getElem? (i := 96) rfl)
set_option maxRecDepth 100000 in
theorem n_1 : (.arrayOver (.object RX11) : Cond) ∈ lw_tbl := jt_1 _ (List.mem_of_getElem? (i := 150) rfl)
set_option maxRecDepth 100000 in
theorem n_2 : (.arrayOver (.object RX0) : Cond) ∈ lw_tbl := jt_1 _ (List.mem_of_getElem? (i := 187) rfl)
set_option maxRecDepth 100000 in
theorem n_3 : (.arrayOver (.object RX2) : Cond) ∈ lw_tbl := jt_1 _ (List.mem_of_getElem? (i := 189) rfl)
set_option maxRecDepth 100000 in
theorem n_4 : (.arrayOver (.object RX4) : Cond) ∈ lw_tbl := jt_1 _ (List.mem_of_getElem? (i := 191) rfl)
set_option maxRecDepth 100000 in
theorem n_5 : (.methodLinkNest RX12 9 yX7_init RX12 : Cond) ∈ lw_tbl := jt_1 _ (List.mem_of_getElem? (i := 35) rfl)
set_option maxRecDepth 100000 in
theorem n_6 : (.methodLinkNest RX12 18 yX8_init RX12 : Cond) ∈ lw_tbl := jt_1 _ (List.mem_of_getElem? (i := 91) rfl)
set_option maxRecDepth 100000 in
theorem n_7 : (.methodLinkNest RX12 84 yX3_init RX12 : Cond) ∈ lw_tbl := jt_2 _ (List.mem_of_getElem? (i := 3) rfl)
set_option maxRecDepth 100000 in
theorem n_8 : (.methodLinkNest RX12 91 yX1_init RX12 : Cond) ∈ lw_tbl := jt_2 _ (List.mem_of_getElem? (i := 32) rfl)
set_option maxRecDepth 100000 in
theorem n_9 : (.methodLinkNest RX12 98 yX10_init RX12 : Cond) ∈ lw_tbl := jt_2 _ (List.mem_of_getElem? (i := 70) rfl)
set_option maxRecDepth 100000 in
theorem n_10 : (.methodLinkNest RX7 75 yX9_init RX12 : Cond) ∈ lw_tbl := jt_3 _ (List.mem_of_getElem? (i := 162) rfl)
set_option maxRecDepth 100000 in
theorem n_11 : (.castable "[I" "java/lang/Cloneable" : Cond) ∈ lw_tbl := jt_3 _ (List.mem_of_getElem? (i := 193) rfl)
set_option maxRecDepth 100000 in
theorem n_12 : (.castable "[J" "java/lang/Cloneable" : Cond) ∈ lw_tbl := jt_3 _ (List.mem_of_getElem? (i := 207) rfl)
set_option maxRecDepth 100000 in
theorem n_13 : (.laysStatic "BookOfAll$Rules" "WITHOUT" "[I" : Cond) ∈ lw_tbl := jt_4 _ (List.mem_of_getElem? (i := 2) rfl)
set_option maxRecDepth 100000 in
theorem n_14 : (.stringRef "BookOfAll$Reader" 98 "+-*/()[],<>=;" : Cond) ∈ lw_tbl := jt_2 _ (List.mem_of_getElem? (i := 187) rfl)
set_option maxRecDepth 100000 in
theorem n_15 : (.stringRef "BookOfAll$Reader" 141 "skip numbers blanks write must owe least most pay short plain long asked lines facts points field skill age volume late last first pass count or and not" : Cond) ∈ lw_tbl := jt_3 _ (List.mem_of_getElem? (i := 44) rfl)
set_option maxRecDepth 100000 in
theorem n_16 : (.stringRef "BookOfAllModel" 260 " skip numbers blanks least most pay write must owe first last count pass short plain long asked lines facts points field skill age volume late or and not " : Cond) ∈ lw_tbl := jt_8 _ (List.mem_of_getElem? (i := 158) rfl)
set_option maxRecDepth 100000 in
theorem n_17 : (.laysStatic "java/lang/String" "COMPACT_STRINGS" "Z" : Cond) ∈ lw_tbl := jt_2 _ (List.mem_of_getElem? (i := 201) rfl)
set_option maxRecDepth 100000 in
theorem n_18 : (.laysStatic "jdk/internal/util/Preconditions" "SIOOBE_FORMATTER" "Ljava/util/function/BiFunction;" : Cond) ∈ lw_tbl := jt_3 _ (List.mem_of_getElem? (i := 2) rfl)
set_option maxRecDepth 100000 in
theorem n_19 : (.instantiable RX0 18 : Cond) ∈ lw_tbl := jt_4 _ (List.mem_of_getElem? (i := 98) rfl)
set_option maxRecDepth 100000 in
theorem n_20 : (.instantiable RX1 10 : Cond) ∈ lw_tbl := jt_2 _ (List.mem_of_getElem? (i := 31) rfl)
set_option maxRecDepth 100000 in
theorem n_21 : (.instantiable RX2 6 : Cond) ∈ lw_tbl := jt_5 _ (List.mem_of_getElem? (i := 20) rfl)
set_option maxRecDepth 100000 in
theorem n_22 : (.instantiable RX3 7 : Cond) ∈ lw_tbl := jt_2 _ (List.mem_of_getElem? (i := 2) rfl)
set_option maxRecDepth 100000 in
theorem n_23 : (.instantiable RX4 9 : Cond) ∈ lw_tbl := jt_5 _ (List.mem_of_getElem? (i := 127) rfl)
set_option maxRecDepth 100000 in
theorem n_24 : (.instantiable RX5 12 : Cond) ∈ lw_tbl := jt_1 _ (List.mem_of_getElem? (i := 193) rfl)
set_option maxRecDepth 100000 in
theorem n_25 : (.instantiable RX6 6 : Cond) ∈ lw_tbl := jt_1 _ (List.mem_of_getElem? (i := 124) rfl)
set_option maxRecDepth 100000 in
theorem n_26 : (.instantiable RX7 15 : Cond) ∈ lw_tbl := jt_1 _ (List.mem_of_getElem? (i := 34) rfl)
set_option maxRecDepth 100000 in
theorem n_27 : (.instantiable RX8 8 : Cond) ∈ lw_tbl := jt_1 _ (List.mem_of_getElem? (i := 90) rfl)
set_option maxRecDepth 100000 in
theorem n_28 : (.instantiable RX9 4 : Cond) ∈ lw_tbl := jt_3 _ (List.mem_of_getElem? (i := 161) rfl)
set_option maxRecDepth 100000 in
theorem n_29 : (.instantiable RX10 3 : Cond) ∈ lw_tbl := jt_2 _ (List.mem_of_getElem? (i := 69) rfl)
set_option maxRecDepth 100000 in
theorem n_30 : (.instantiable RX11 7 : Cond) ∈ lw_tbl := jt_1 _ (List.mem_of_getElem? (i := 151) rfl)
set_option maxRecDepth 100000 in
theorem n_31 : (.instantiable RX12 20 : Cond) ∈ lw_tbl := jt_1 _ (List.mem_of_getElem? (i := 26) rfl)
set_option maxRecDepth 100000 in
theorem n_32 : (.instantiable RX13 104 : Cond) ∈ lw_tbl := jt_7 _ (List.mem_of_getElem? (i := 50) rfl)
set_option maxHeartbeats 4000000 in
set_option maxRecDepth 100000 in
theorem law_E {s : State} {av : Array Value} (hts : ∀ w ∈ lw_tbl, w.before av s = true) : jE s := by
  refine ⟨?_, ?_, ?_⟩
  · intro C hC
    simp only [jE_cs, List.mem_cons, List.not_mem_nil, or_false] at hC
    rcases hC with rfl | rfl | rfl | rfl | rfl
    · exact va_AO.of (hts (.arrayOver (.object RX9)) n_0)
    · exact va_AO.of (hts (.arrayOver (.object RX11)) n_1)
    · exact va_AO.of (hts (.arrayOver (.object RX0)) n_2)
    · exact va_AO.of (hts (.arrayOver (.object RX2)) n_3)
    · exact va_AO.of (hts (.arrayOver (.object RX4)) n_4)
  · intro n hn
    simp only [jE_ns, List.mem_cons, List.not_mem_nil, or_false] at hn
    rcases hn with rfl | rfl | rfl | rfl | rfl | rfl
    · exact va_Nw.of rfl (hts (.methodLinkNest RX12 9 yX7_init RX12) n_5)
    · exact va_Nw.of rfl (hts (.methodLinkNest RX12 18 yX8_init RX12) n_6)
    · exact va_Nw.of rfl (hts (.methodLinkNest RX12 84 yX3_init RX12) n_7)
    · exact va_Nw.of rfl (hts (.methodLinkNest RX12 91 yX1_init RX12) n_8)
    · exact va_Nw.of rfl (hts (.methodLinkNest RX12 98 yX10_init RX12) n_9)
    · exact va_Nw.of rfl (hts (.methodLinkNest RX7 75 yX9_init RX12) n_10)
  · exact va_Nw.of rfl (hts (.castable "[I" "java/lang/Cloneable") n_11)
theorem law_E2 {s : State} {av : Array Value} (hts : ∀ w ∈ lw_tbl, w.before av s = true) : jE2 s := ⟨law_E hts, va_Nw.of rfl (hts (.castable "[J" "java/lang/Cloneable") n_12)⟩
set_option maxHeartbeats 4000000 in
set_option maxRecDepth 100000 in
theorem law_Z {s : State} {av : Array Value} (hts : ∀ w ∈ lw_tbl, w.before av s = true) (hgv : (Jvm.Cond.and given_1 narrow_1).before av s = true) : ∃ tW : Nat, va_Z "BookOfAll$Rules" "WITHOUT" "[I" (.ref tW) (fun q : Nat => s.heap.size ≤ q) s s.heap ∧ va_T .int tW 14 (fun k => .int (jz_f k)) (fun q : Nat => s.heap.size ≤ q) s s.heap := by
  have hs := flat_of_before _ hgv
  have harr : (Cond.arrayOf (.static "BookOfAll$Rules" "WITHOUT" "[I") .int).before av s = true := hs _ (List.mem_of_getElem? (i := 10) rfl)
  have hlen := va_eqt (hs (Cond.eq (.length (.static "BookOfAll$Rules" "WITHOUT" "[I")) (.int 14)) (List.mem_of_getElem? (i := 11) rfl))
  have hel : ∀ j : Nat, j < 14 → (Term.elem (.static "BookOfAll$Rules" "WITHOUT" "[I") (.int (Int32.ofNat j))).eval av s none [] s = some (.int (jz_f j)) := by
    intro j hj
    rcases (show j = 0 ∨ j = 1 ∨ j = 2 ∨ j = 3 ∨ j = 4 ∨ j = 5 ∨ j = 6 ∨ j = 7 ∨ j = 8 ∨ j = 9 ∨ j = 10 ∨ j = 11 ∨ j = 12 ∨ j = 13 by omega) with rfl | rfl | rfl | rfl | rfl | rfl | rfl | rfl | rfl | rfl | rfl | rfl | rfl | rfl
    · exact va_eqt (hs (Cond.eq (.elem (.static "BookOfAll$Rules" "WITHOUT" "[I") (.int 0)) (.int 1)) (List.mem_of_getElem? (i := 12) rfl))
    · exact va_eqt (hs (Cond.eq (.elem (.static "BookOfAll$Rules" "WITHOUT" "[I") (.int 1)) (.int 1)) (List.mem_of_getElem? (i := 13) rfl))
    · exact va_eqt (hs (Cond.eq (.elem (.static "BookOfAll$Rules" "WITHOUT" "[I") (.int 2)) (.int 1)) (List.mem_of_getElem? (i := 14) rfl))
    · exact va_eqt (hs (Cond.eq (.elem (.static "BookOfAll$Rules" "WITHOUT" "[I") (.int 3)) (.int 1)) (List.mem_of_getElem? (i := 15) rfl))
    · exact va_eqt (hs (Cond.eq (.elem (.static "BookOfAll$Rules" "WITHOUT" "[I") (.int 4)) (.int 0)) (List.mem_of_getElem? (i := 16) rfl))
    · exact va_eqt (hs (Cond.eq (.elem (.static "BookOfAll$Rules" "WITHOUT" "[I") (.int 5)) (.int 1)) (List.mem_of_getElem? (i := 17) rfl))
    · exact va_eqt (hs (Cond.eq (.elem (.static "BookOfAll$Rules" "WITHOUT" "[I") (.int 6)) (.int 1)) (List.mem_of_getElem? (i := 18) rfl))
    · exact va_eqt (hs (Cond.eq (.elem (.static "BookOfAll$Rules" "WITHOUT" "[I") (.int 7)) (.int 1)) (List.mem_of_getElem? (i := 19) rfl))
    · exact va_eqt (hs (Cond.eq (.elem (.static "BookOfAll$Rules" "WITHOUT" "[I") (.int 8)) (.int 400)) (List.mem_of_getElem? (i := 20) rfl))
    · exact va_eqt (hs (Cond.eq (.elem (.static "BookOfAll$Rules" "WITHOUT" "[I") (.int 9)) (.int 400)) (List.mem_of_getElem? (i := 21) rfl))
    · exact va_eqt (hs (Cond.eq (.elem (.static "BookOfAll$Rules" "WITHOUT" "[I") (.int 10)) (.int 400)) (List.mem_of_getElem? (i := 22) rfl))
    · exact va_eqt (hs (Cond.eq (.elem (.static "BookOfAll$Rules" "WITHOUT" "[I") (.int 11)) (.int 1)) (List.mem_of_getElem? (i := 23) rfl))
    · exact va_eqt (hs (Cond.eq (.elem (.static "BookOfAll$Rules" "WITHOUT" "[I") (.int 12)) (.int 1)) (List.mem_of_getElem? (i := 24) rfl))
    · exact va_eqt (hs (Cond.eq (.elem (.static "BookOfAll$Rules" "WITHOUT" "[I") (.int 13)) (.int 1)) (List.mem_of_getElem? (i := 25) rfl))
  obtain ⟨tW, ht, hT⟩ := va_Tof (A := (fun q : Nat => s.heap.size ≤ q)) (N := 14) (f := fun k => .int (jz_f k)) (by decide) harr hlen hel (fun a h z => absurd h (Nat.not_lt.mpr z))
  exact ⟨tW, va_Zof (hts (.laysStatic "BookOfAll$Rules" "WITHOUT" "[I") n_13) (hts (.initialized RX8) (jlw _ m_928)) ht (fun a h z => absurd h (Nat.not_lt.mpr z)), hT⟩
abbrev sxtm (i : Nat) : Term := match i with
  | 0 => .string "BookOfAll$Reader" 98
  | 1 => .string "BookOfAll$Reader" 141
  | _ => .string "BookOfAllModel" 260
set_option maxHeartbeats 4000000 in
set_option maxRecDepth 100000 in
theorem law_el0 : (List.range 13).map (fun j : Nat => Cond.eq (.elem (.field (sxtm 0) "java/lang/String" "value" "[B") (.int (Int32.ofNat j))) (.int ((sx_byt.getD 0 []).getD j 0))) = ((flatC (Jvm.Cond.and given_1 narrow_1)).drop 30).take 13 := by decide +kernel
theorem law_em0 (j : Nat) (hj : j < 13) : Cond.eq (.elem (.field (sxtm 0) "java/lang/String" "value" "[B") (.int (Int32.ofNat j))) (.int ((sx_byt.getD 0 []).getD j 0)) ∈ flatC (Jvm.Cond.and given_1 narrow_1) := by
  have h2 := List.mem_map_of_mem (f := (fun j : Nat => Cond.eq (.elem (.field (sxtm 0) "java/lang/String" "value" "[B") (.int (Int32.ofNat j))) (.int ((sx_byt.getD 0 []).getD j 0)))) (List.mem_range.mpr hj)
  rw [law_el0] at h2
  exact List.mem_of_mem_drop (List.mem_of_mem_take h2)
set_option maxHeartbeats 4000000 in
set_option maxRecDepth 100000 in
theorem law_el1 : (List.range 152).map (fun j : Nat => Cond.eq (.elem (.field (sxtm 1) "java/lang/String" "value" "[B") (.int (Int32.ofNat j))) (.int ((sx_byt.getD 1 []).getD j 0))) = ((flatC (Jvm.Cond.and given_1 narrow_1)).drop 47).take 152 := by decide +kernel
theorem law_em1 (j : Nat) (hj : j < 152) : Cond.eq (.elem (.field (sxtm 1) "java/lang/String" "value" "[B") (.int (Int32.ofNat j))) (.int ((sx_byt.getD 1 []).getD j 0)) ∈ flatC (Jvm.Cond.and given_1 narrow_1) := by
  have h2 := List.mem_map_of_mem (f := (fun j : Nat => Cond.eq (.elem (.field (sxtm 1) "java/lang/String" "value" "[B") (.int (Int32.ofNat j))) (.int ((sx_byt.getD 1 []).getD j 0)))) (List.mem_range.mpr hj)
  rw [law_el1] at h2
  exact List.mem_of_mem_drop (List.mem_of_mem_take h2)
set_option maxHeartbeats 4000000 in
set_option maxRecDepth 100000 in
theorem law_el2 : (List.range 154).map (fun j : Nat => Cond.eq (.elem (.field (sxtm 2) "java/lang/String" "value" "[B") (.int (Int32.ofNat j))) (.int ((sx_byt.getD 2 []).getD j 0))) = ((flatC (Jvm.Cond.and given_1 narrow_1)).drop 204).take 154 := by decide +kernel
theorem law_em2 (j : Nat) (hj : j < 154) : Cond.eq (.elem (.field (sxtm 2) "java/lang/String" "value" "[B") (.int (Int32.ofNat j))) (.int ((sx_byt.getD 2 []).getD j 0)) ∈ flatC (Jvm.Cond.and given_1 narrow_1) := by
  have h2 := List.mem_map_of_mem (f := (fun j : Nat => Cond.eq (.elem (.field (sxtm 2) "java/lang/String" "value" "[B") (.int (Int32.ofNat j))) (.int ((sx_byt.getD 2 []).getD j 0)))) (List.mem_range.mpr hj)
  rw [law_el2] at h2
  exact List.mem_of_mem_drop (List.mem_of_mem_take h2)
set_option maxHeartbeats 4000000 in
set_option maxRecDepth 100000 in
theorem law_S {s : State} {av : Array Value} (hts : ∀ w ∈ lw_tbl, w.before av s = true) (hgv : (Jvm.Cond.and given_1 narrow_1).before av s = true) : ∃ sK sV : Nat → Nat, xS sK sV (fun q : Nat => s.heap.size ≤ q) s s.heap := by
  have hs := flat_of_before _ hgv
  have hA : ∀ a : Nat, a < s.heap.size → ¬ (fun q : Nat => s.heap.size ≤ q) a := fun a h z => absurd h (Nat.not_lt.mpr z)
  have hex : ∀ i : Nat, i < 3 → (Cond.exactly (sxtm i) "java/lang/String").before av s = true := by
    intro i hi
    rcases (show i = 0 ∨ i = 1 ∨ i = 2 by omega) with rfl | rfl | rfl
    · exact hs _ (List.mem_of_getElem? (i := 26) rfl)
    · exact hs _ (List.mem_of_getElem? (i := 43) rfl)
    · exact hs _ (List.mem_of_getElem? (i := 200) rfl)
  have hco : ∀ i : Nat, i < 3 → (Cond.eq (.field (sxtm i) "java/lang/String" "coder" "B") (.int 0)).before av s = true := by
    intro i hi
    rcases (show i = 0 ∨ i = 1 ∨ i = 2 by omega) with rfl | rfl | rfl
    · exact hs _ (List.mem_of_getElem? (i := 27) rfl)
    · exact hs _ (List.mem_of_getElem? (i := 44) rfl)
    · exact hs _ (List.mem_of_getElem? (i := 201) rfl)
  have har : ∀ i : Nat, i < 3 → (Cond.arrayOf (.field (sxtm i) "java/lang/String" "value" "[B") .byte).before av s = true := by
    intro i hi
    rcases (show i = 0 ∨ i = 1 ∨ i = 2 by omega) with rfl | rfl | rfl
    · exact hs _ (List.mem_of_getElem? (i := 28) rfl)
    · exact hs _ (List.mem_of_getElem? (i := 45) rfl)
    · exact hs _ (List.mem_of_getElem? (i := 202) rfl)
  have hle : ∀ i : Nat, i < 3 → (Cond.eq (.length (.field (sxtm i) "java/lang/String" "value" "[B")) (.int (Int32.ofNat (sx_len.getD i 0)))).before av s = true := by
    intro i hi
    rcases (show i = 0 ∨ i = 1 ∨ i = 2 by omega) with rfl | rfl | rfl
    · exact hs _ (List.mem_of_getElem? (i := 29) rfl)
    · exact hs _ (List.mem_of_getElem? (i := 46) rfl)
    · exact hs _ (List.mem_of_getElem? (i := 203) rfl)
  have hel : ∀ i : Nat, i < 3 → ∀ j : Nat, j < sx_len.getD i 0 → (Cond.eq (.elem (.field (sxtm i) "java/lang/String" "value" "[B") (.int (Int32.ofNat j))) (.int ((sx_byt.getD i []).getD j 0))).before av s = true := by
    intro i hi
    rcases (show i = 0 ∨ i = 1 ∨ i = 2 by omega) with rfl | rfl | rfl
    · exact fun j hj => hs _ (law_em0 j hj)
    · exact fun j hj => hs _ (law_em1 j hj)
    · exact fun j hj => hs _ (law_em2 j hj)
  have hne : ∀ i j : Nat, i < 3 → j < 3 → i ≠ j → (Cond.not (Cond.eq (sxtm i) (sxtm j))).before av s = true ∨ (Cond.not (Cond.eq (sxtm j) (sxtm i))).before av s = true := by
    intro i j hi hj hij
    rcases (show i = 0 ∨ i = 1 ∨ i = 2 by omega) with rfl | rfl | rfl <;> rcases (show j = 0 ∨ j = 1 ∨ j = 2 by omega) with rfl | rfl | rfl
    · exact absurd rfl hij
    · exact Or.inl (hs _ (List.mem_of_getElem? (i := 199) rfl))
    · exact Or.inl (hs _ (List.mem_of_getElem? (i := 358) rfl))
    · exact Or.inr (hs _ (List.mem_of_getElem? (i := 199) rfl))
    · exact absurd rfl hij
    · exact Or.inl (hs _ (List.mem_of_getElem? (i := 359) rfl))
    · exact Or.inr (hs _ (List.mem_of_getElem? (i := 358) rfl))
    · exact Or.inr (hs _ (List.mem_of_getElem? (i := 359) rfl))
    · exact absurd rfl hij
  obtain ⟨sK, sV, hS, hE⟩ := vk_Sof (A := (fun q : Nat => s.heap.size ≤ q)) (tm := sxtm) (len := sx_len) (byt := sx_byt) (N := 3) (fun i hi => by have := sx_le i; omega) hex hco har hle hel hne hA
  refine ⟨sK, sV, hS, ⟨vk_R.of (hts (.stringRef "BookOfAll$Reader" 98 "+-*/()[],<>=;") n_14) (hE 0 (by decide)), vk_R.of (hts (.stringRef "BookOfAll$Reader" 141 "skip numbers blanks write must owe least most pay short plain long asked lines facts points field skill age volume late last first pass count or and not") n_15) (hE 1 (by decide)), vk_R.of (hts (.stringRef "BookOfAllModel" 260 " skip numbers blanks least most pay write must owe first last count pass short plain long asked lines facts points field skill age volume late or and not ") n_16) (hE 2 (by decide))⟩, va_Zof (hts (.laysStatic "java/lang/String" "COMPACT_STRINGS" "Z") n_17) (hts (.initialized RJ0) (jlw _ m_754)) (va_eqt (hs _ (List.mem_of_getElem? (i := 4) rfl))) hA, ?_⟩
  obtain ⟨w, hw, hr⟩ := Cond.isRef_spec (hs (.isRef (.static "jdk/internal/util/Preconditions" "SIOOBE_FORMATTER" "Ljava/util/function/BiFunction;")) (List.mem_of_getElem? (i := 5) rfl))
  cases w with
  | ref t => exact Or.inl ⟨t, va_Zof (hts (.laysStatic "jdk/internal/util/Preconditions" "SIOOBE_FORMATTER" "Ljava/util/function/BiFunction;") n_18) (hts (.initialized RJ3) (jlw _ m_799)) hw hA⟩
  | null => exact Or.inr (va_Zof (hts (.laysStatic "jdk/internal/util/Preconditions" "SIOOBE_FORMATTER" "Ljava/util/function/BiFunction;") n_18) (hts (.initialized RJ3) (jlw _ m_799)) hw hA)
  | _ => simp [Value.isRef] at hr
