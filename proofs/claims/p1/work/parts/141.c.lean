set_option maxHeartbeats 500000 in
set_option maxRecDepth 100000 in
theorem kX13_in_1 (l : Launch) (dC : Nat → ClassId) (dI : Nat → Nat → Nat) (sz : Nat) (p0 : Int32) : Met l yX13_in (jk yX13_in cX13_in 3 (some .boolean)) ({ frames := 0, cells := 0, slots := 0, locals := 0 }) (va_Pc [.int p0, .int 0, .int 0] (fun U => U.heap.size = sz)) (va_Qi (fun (r : Int32) (_ : Unit) => (p0 < 0 ∧ r = 0) ∨ (¬ (p0 < 0) ∧ 0 < p0 ∧ r = 0) ∨ (¬ (p0 < 0) ∧ ¬ (0 < p0) ∧ r = 1)) (fun _ _ => True) (va_A [] sz)) 0 0 (va_A [] sz) := by
  refine Met.ofW (cc := cX13_in) (maxL := 3) (ret := (some .boolean)) (by decide) rfl ?_
  intro p e s m args below meth c s₁ B hml hv
  obtain ⟨rfl, hsz⟩ := hv
  have hx := B.exec
  have hb := B.bytes
  have hr := B.returns
  have hts := atoms_spec (ws := (jk yX13_in cX13_in 3 (some .boolean))) B.pre
  have hown : s.vm.findClass RX13 = some m.cls := findClass_of_methodNamed B.named
  have hlocks := B.notSynchronized
  subst hsz
  have hP : va_P (dC, dI) vwCl [] s.heap := fun k q h => by simp at h
  generalize hAe : (va_A [] s.heap.size) = A
  have hA : ∀ q : Nat, s.heap.size ≤ q → A q := fun q h => by rw [← hAe]; exact Or.inr h
  have hS : va_S A s.heap s.heap [] := va_S.rf
  have hl := lv_entry ([.int p0, .int 0, .int 0]) (n := 3) (Nat.le_of_ble_eq_true rfl)
  rw [lg_entry_eq]
  generalize (lg_sl ([.int p0, .int 0, .int 0]) ++ List.replicate (3 - (lg_sl ([.int p0, .int 0, .int 0])).length) Slot.unset).toArray = ls at hl ⊢
  have hl : lv_has ls 3 [(0, .int p0), (1, .int 0), (2, .int 0)] := hl
  refine lv_iload_n hx hb dX13_in_0 rfl (lv_at hl 0 rfl) ?_
  refine lv_iload_n hx hb dX13_in_1 rfl (lv_at hl 1 rfl) ?_
  refine lv_icmp_lt (tgt := 14) hx hb dX13_in_2 (by decide) (fun c_1 => ?_) (fun c_1 => ?_)
  · refine lv_iconst (v := 0) hx hb dX13_in_14 (by decide) ?_
    exact W.zret (v := 0) (ty := .boolean) hx hb hr rfl (fun t ht hW => ⟨⟨0, (), rfl, (Or.inl ⟨c_1, rfl⟩), trivial⟩, hS.F ht⟩) hS.2.2 dX13_in_15
  · refine lv_iload_n hx hb dX13_in_5 rfl (lv_at hl 0 rfl) ?_
    refine lv_iload_n hx hb dX13_in_6 rfl (lv_at hl 2 rfl) ?_
    refine lv_icmp_gt (tgt := 14) hx hb dX13_in_7 (by decide) (fun c_2 => ?_) (fun c_2 => ?_)
    · refine lv_iconst (v := 0) hx hb dX13_in_14 (by decide) ?_
      exact W.zret (v := 0) (ty := .boolean) hx hb hr rfl (fun t ht hW => ⟨⟨0, (), rfl, (Or.inr (Or.inl ⟨c_1, c_2, rfl⟩)), trivial⟩, hS.F ht⟩) hS.2.2 dX13_in_15
    · refine lv_iconst (v := 1) hx hb dX13_in_10 (by decide) ?_
      refine lv_goto (tgt := 15) hx hb dX13_in_11 (by decide) ?_
      exact W.zret (v := 1) (ty := .boolean) hx hb hr rfl (fun t ht hW => ⟨⟨1, (), rfl, (Or.inr (Or.inr ⟨c_1, c_2, rfl⟩)), trivial⟩, hS.F ht⟩) hS.2.2 dX13_in_15
theorem s_tX13_end_0 {p1 : Int32} (c_2 : p1 < 0) : 0 = sp_end p1 := by
  unfold sp_end
  have g0 : p1.toInt < 0 := ji_lt.mp c_2
  split <;> first | rfl | (exfalso; omega)
theorem s_tX13_end_1 {p1 : Int32} (c_3 : ¬ (p1 < 0)) (c_4 : 0 < p1) : 0 = sp_end p1 := by
  unfold sp_end
  have g0 : ¬ (p1.toInt < 0) := fun z => c_3 (ji_lt.mpr z)
  have g1 : 0 < p1.toInt := ji_lt.mp c_4
  split <;> first | rfl | (exfalso; omega)
theorem s_tX13_end_2 {p1 : Int32} (c_5 : ¬ (p1 < 0)) (c_6 : ¬ (0 < p1)) : 1 = sp_end p1 := by
  unfold sp_end
  have g0 : ¬ (p1.toInt < 0) := fun z => c_5 (ji_lt.mpr z)
  have g1 : ¬ (0 < p1.toInt) := fun z => c_6 (ji_lt.mpr z)
  split <;> first | rfl | (exfalso; omega)
set_option maxHeartbeats 500000 in
set_option maxRecDepth 100000 in
theorem tX13_end (l : Launch) (dC : Nat → ClassId) (dI : Nat → Nat → Nat) (sz : Nat) (ad : Nat → Nat) (ca : Nat → ClassId) (p1 : Int32) : Met l yX13_end (jk yX13_end cX13_end 2 (some .boolean)) ({ frames := 1, cells := 0, slots := 0, locals := 22 }) (va_Pc [.ref (ad 0), .int p1] (jw_P (dC, dI) (mW ad ca) (mT ca) sz)) (va_Qi (fun (r : Int32) (_ : Unit) => r = sp_end p1) (fun _ _ => True) (va_A (mW ad ca) sz)) 0 0 (va_A (mW ad ca) sz) := by
  refine Met.ofW (cc := cX13_end) (maxL := 2) (ret := (some .boolean)) (by decide) rfl ?_
  intro p e s m args below meth c s₁ B hml hv
  obtain ⟨rfl, hsz, hP, hK, hD0⟩ := hv
  have hx := B.exec
  have hb := B.bytes
  have hr := B.returns
  have hts := atoms_spec (ws := (jk yX13_end cX13_end 2 (some .boolean))) B.pre
  have hown : s.vm.findClass RX13 = some m.cls := findClass_of_methodNamed B.named
  have hlocks := B.notSynchronized
  subst hsz
  have hD := hD0.self (sz := s.heap.size)
  generalize hAe : (va_A (mW ad ca) s.heap.size) = A at hD ⊢
  have hA : ∀ q : Nat, s.heap.size ≤ q → A q := fun q h => by rw [← hAe]; exact Or.inr h
  have hS : va_S A s.heap s.heap [] := va_S.rf
  have hP : va_P (dC, dI) vwCl (mW ad ca) s.heap := hP
  have hl := lv_entry ([.ref (ad 0), .int p1]) (n := 2) (Nat.le_of_ble_eq_true rfl)
  rw [lg_entry_eq]
  generalize (lg_sl ([.ref (ad 0), .int p1]) ++ List.replicate (2 - (lg_sl ([.ref (ad 0), .int p1])).length) Slot.unset).toArray = ls at hl ⊢
  have hl : lv_has ls 2 [(0, .ref (ad 0)), (1, .int p1)] := hl
  refine lv_iload_n hx hb dX13_end_0 rfl (lv_at hl 1 rfl) ?_
  refine lv_iconst (v := 0) hx hb dX13_end_1 (by decide) ?_
  refine lv_aload_n hx hb dX13_end_2 rfl (lv_at hl 0 rfl) ?_
  refine va_get (D := (dC, dI)) (ci := 13) (v := .int 0) (C := RX13) (T := TX13) (N := 104) hx hb hts (jh hin_RX13) hown hK hP 0 rfl rfl 1 (by decide) (hts (.fieldLink RX13 252 "BookOfAllModel" "size" "I") (jm m_492)) (fun _ h9 => h9) rfl dX13_end_3 ?_
  refine jc_i (va_runS (As := [.int p1, .int 0, .int 0]) (rest := []) ⟨hx, hb, hml, hown, hts⟩ (kX13_in_1 l dC dI _ p1) (va_cwS 3 hts (jgoodS m_493 m_494 m_96 m_495) rfl rfl rfl (by decide +kernel) ⟨Nat.le_of_ble_eq_true rfl, Nat.le_of_ble_eq_true rfl⟩) ⟨jw_blind0, fun U hU hW => ⟨rfl, congrArg Array.size hU⟩⟩ rfl rfl hl.1 rfl (lv_room (Nat.le_of_ble_eq_true rfl)) dX13_end_6 ⟨Nat.le_of_ble_eq_true rfl, Nat.le_of_ble_eq_true rfl⟩) hP hS hA (fun r_1 H locs hw_1 hP hS => ?_)
  rcases (show (p1 < 0 ∧ r_1 = 0) ∨ (¬ (p1 < 0) ∧ 0 < p1 ∧ r_1 = 0) ∨ (¬ (p1 < 0) ∧ ¬ (0 < p1) ∧ r_1 = 1) from hw_1) with ⟨c_2, e_2_0⟩ | ⟨c_3, c_4, e_4_1⟩ | ⟨c_5, c_6, e_6_2⟩
  · have e_2_0 := e_2_0.symm
    subst e_2_0
    refine lv_if_ne (tgt := 14) hx hb dX13_end_9 (by decide) (fun z => absurd (by decide) z) (fun _ => ?_)
    refine lv_iconst (v := 0) hx hb dX13_end_12 (by decide) ?_
    exact W.zret (v := 0) (ty := .boolean) hx hb hr rfl (fun t ht hW => ⟨⟨0, (), rfl, (s_tX13_end_0 (p1 := p1) c_2), trivial⟩, hS.F ht⟩) hS.2.2 dX13_end_13
  · have e_4_1 := e_4_1.symm
    subst e_4_1
    refine lv_if_ne (tgt := 14) hx hb dX13_end_9 (by decide) (fun z => absurd (by decide) z) (fun _ => ?_)
    refine lv_iconst (v := 0) hx hb dX13_end_12 (by decide) ?_
    exact W.zret (v := 0) (ty := .boolean) hx hb hr rfl (fun t ht hW => ⟨⟨0, (), rfl, (s_tX13_end_1 (p1 := p1) c_3 c_4), trivial⟩, hS.F ht⟩) hS.2.2 dX13_end_13
  · have e_6_2 := e_6_2.symm
    subst e_6_2
    refine lv_if_ne (tgt := 14) hx hb dX13_end_9 (by decide) (fun _ => ?_) (fun z => absurd z (by decide))
    refine lv_aload_n hx hb dX13_end_14 rfl (lv_at hl 0 rfl) ?_
    refine lv_iload_n hx hb dX13_end_15 rfl (lv_at hl 1 rfl) ?_
    refine va_put (D := (dC, dI)) (ci := 13) (v := .int p1) (ty := .int) (C := RX13) (T := TX13) (N := 104) hx hb hts (jh hin_RX13) tyX13 tyX13_ok nmX13 hown hK hP hD hS 0 rfl rfl 1 (by decide) (hts (.fieldLink RX13 252 "BookOfAllModel" "size" "I") (jm m_492)) (fun _ h9 => h9) rfl (by decide +kernel) rfl rfl (Nat.le_of_ble_eq_true rfl) dX13_end_16 (fun H locs hP hD hS => ?_)
    refine lv_iconst (v := 1) hx hb dX13_end_19 (by decide) ?_
    exact W.zret (v := 1) (ty := .boolean) hx hb hr rfl (fun t ht hW => ⟨⟨1, (), rfl, (s_tX13_end_2 (p1 := p1) c_5 c_6), trivial⟩, hS.F ht⟩) hS.2.2 dX13_end_20
set_option maxHeartbeats 500000 in
set_option maxRecDepth 100000 in
theorem kX13_next_2 (l : Launch) (dC : Nat → ClassId) (dI : Nat → Nat → Nat) (sz : Nat) (ad : Nat → Nat) (ca : Nat → ClassId) : Met l yX13_next (jk yX13_next cX13_next 2 none) ({ frames := 0, cells := 0, slots := 0, locals := 0 }) (va_Pc [.ref (ad 0)] (jw_P (dC, dI) ((jS (jS (mW ad ca) 5 (ad 5, .inl ((ca 5), 14, .inl (upd (upd (upd (upd (upd (upd (upd (upd (upd (upd (upd (upd (upd (upd (fun _ => 0) 0 (-1)) 1 (-1)) 2 (-1)) 3 (-1)) 4 (-1)) 5 (-1)) 6 (-1)) 7 (-1)) 8 (-1)) 9 (-1)) 10 (-1)) 11 (-1)) 12 (-1)) 13 (-1))))) 6 (ad 6, .inl ((ca 6), 14, .inl (upd (upd (upd (upd (upd (upd (upd (upd (upd (upd (upd (upd (upd (upd (fun _ => 0) 0 (-1)) 1 (-1)) 2 (-1)) 3 (-1)) 4 (-1)) 5 (-1)) 6 (-1)) 7 (-1)) 8 (-1)) 9 (-1)) 10 (-1)) 11 (-1)) 12 (-1)) 13 (-1)))))) (mT ca) sz)) (va_Qv (fun (_ : Unit) => True) (fun _ t => va_P (dC, dI) vwCl ((jS (jS (mW ad ca) 5 (ad 5, .inl ((ca 5), 14, .inl (upd (upd (upd (upd (upd (upd (upd (upd (upd (upd (upd (upd (upd (upd (fun _ => 0) 0 (-1)) 1 (-1)) 2 (-1)) 3 (-1)) 4 (-1)) 5 (-1)) 6 (-1)) 7 (-1)) 8 (-1)) 9 (-1)) 10 (-1)) 11 (-1)) 12 (-1)) 13 (-1))))) 6 (ad 6, .inl ((ca 6), 14, .inl (upd (upd (upd (upd (upd (upd (upd (upd (upd (upd (upd (upd (upd (upd (fun _ => 0) 0 (-1)) 1 (-1)) 2 (-1)) 3 (-1)) 4 (-1)) 5 (-1)) 6 (-1)) 7 (-1)) 8 (-1)) 9 (-1)) 10 (-1)) 11 (-1)) 12 (-1)) 13 (-1)))))) t.heap ∧ va_K (dC, dI) vwCl (mT ca) t ∧ va_D (va_A ((jS (jS (mW ad ca) 5 (ad 5, .inl ((ca 5), 14, .inl (upd (upd (upd (upd (upd (upd (upd (upd (upd (upd (upd (upd (upd (upd (fun _ => 0) 0 (-1)) 1 (-1)) 2 (-1)) 3 (-1)) 4 (-1)) 5 (-1)) 6 (-1)) 7 (-1)) 8 (-1)) 9 (-1)) 10 (-1)) 11 (-1)) 12 (-1)) 13 (-1))))) 6 (ad 6, .inl ((ca 6), 14, .inl (upd (upd (upd (upd (upd (upd (upd (upd (upd (upd (upd (upd (upd (upd (fun _ => 0) 0 (-1)) 1 (-1)) 2 (-1)) 3 (-1)) 4 (-1)) 5 (-1)) 6 (-1)) 7 (-1)) 8 (-1)) 9 (-1)) 10 (-1)) 11 (-1)) 12 (-1)) 13 (-1)))))) sz) ((jS (jS (mW ad ca) 5 (ad 5, .inl ((ca 5), 14, .inl (upd (upd (upd (upd (upd (upd (upd (upd (upd (upd (upd (upd (upd (upd (fun _ => 0) 0 (-1)) 1 (-1)) 2 (-1)) 3 (-1)) 4 (-1)) 5 (-1)) 6 (-1)) 7 (-1)) 8 (-1)) 9 (-1)) 10 (-1)) 11 (-1)) 12 (-1)) 13 (-1))))) 6 (ad 6, .inl ((ca 6), 14, .inl (upd (upd (upd (upd (upd (upd (upd (upd (upd (upd (upd (upd (upd (upd (fun _ => 0) 0 (-1)) 1 (-1)) 2 (-1)) 3 (-1)) 4 (-1)) 5 (-1)) 6 (-1)) 7 (-1)) 8 (-1)) 9 (-1)) 10 (-1)) 11 (-1)) 12 (-1)) 13 (-1))))))) (va_A ((jS (jS (mW ad ca) 5 (ad 5, .inl ((ca 5), 14, .inl (upd (upd (upd (upd (upd (upd (upd (upd (upd (upd (upd (upd (upd (upd (fun _ => 0) 0 (-1)) 1 (-1)) 2 (-1)) 3 (-1)) 4 (-1)) 5 (-1)) 6 (-1)) 7 (-1)) 8 (-1)) 9 (-1)) 10 (-1)) 11 (-1)) 12 (-1)) 13 (-1))))) 6 (ad 6, .inl ((ca 6), 14, .inl (upd (upd (upd (upd (upd (upd (upd (upd (upd (upd (upd (upd (upd (upd (fun _ => 0) 0 (-1)) 1 (-1)) 2 (-1)) 3 (-1)) 4 (-1)) 5 (-1)) 6 (-1)) 7 (-1)) 8 (-1)) 9 (-1)) 10 (-1)) 11 (-1)) 12 (-1)) 13 (-1)))))) sz)) 0 0 (va_A ((jS (jS (mW ad ca) 5 (ad 5, .inl ((ca 5), 14, .inl (upd (upd (upd (upd (upd (upd (upd (upd (upd (upd (upd (upd (upd (upd (fun _ => 0) 0 (-1)) 1 (-1)) 2 (-1)) 3 (-1)) 4 (-1)) 5 (-1)) 6 (-1)) 7 (-1)) 8 (-1)) 9 (-1)) 10 (-1)) 11 (-1)) 12 (-1)) 13 (-1))))) 6 (ad 6, .inl ((ca 6), 14, .inl (upd (upd (upd (upd (upd (upd (upd (upd (upd (upd (upd (upd (upd (upd (fun _ => 0) 0 (-1)) 1 (-1)) 2 (-1)) 3 (-1)) 4 (-1)) 5 (-1)) 6 (-1)) 7 (-1)) 8 (-1)) 9 (-1)) 10 (-1)) 11 (-1)) 12 (-1)) 13 (-1)))))) sz) := by
  refine Met.ofW (cc := cX13_next) (maxL := 2) (ret := none) (by decide) rfl ?_
  intro p e s m args below meth c s₁ B hml hv
  obtain ⟨rfl, hsz, hP, hK, hD0⟩ := hv
  have hx := B.exec
  have hb := B.bytes
  have hr := B.returns
  have hts := atoms_spec (ws := (jk yX13_next cX13_next 2 none)) B.pre
  have hown : s.vm.findClass RX13 = some m.cls := findClass_of_methodNamed B.named
  have hlocks := B.notSynchronized
  subst hsz
  have hD := hD0.self (sz := s.heap.size)
  generalize hAe : (va_A ((jS (jS (mW ad ca) 5 (ad 5, .inl ((ca 5), 14, .inl (upd (upd (upd (upd (upd (upd (upd (upd (upd (upd (upd (upd (upd (upd (fun _ => 0) 0 (-1)) 1 (-1)) 2 (-1)) 3 (-1)) 4 (-1)) 5 (-1)) 6 (-1)) 7 (-1)) 8 (-1)) 9 (-1)) 10 (-1)) 11 (-1)) 12 (-1)) 13 (-1))))) 6 (ad 6, .inl ((ca 6), 14, .inl (upd (upd (upd (upd (upd (upd (upd (upd (upd (upd (upd (upd (upd (upd (fun _ => 0) 0 (-1)) 1 (-1)) 2 (-1)) 3 (-1)) 4 (-1)) 5 (-1)) 6 (-1)) 7 (-1)) 8 (-1)) 9 (-1)) 10 (-1)) 11 (-1)) 12 (-1)) 13 (-1)))))) s.heap.size) = A at hD ⊢
  have hA : ∀ q : Nat, s.heap.size ≤ q → A q := fun q h => by rw [← hAe]; exact Or.inr h
  have hS : va_S A s.heap s.heap [] := va_S.rf
  have hP : va_P (dC, dI) vwCl ((jS (jS (mW ad ca) 5 (ad 5, .inl ((ca 5), 14, .inl (upd (upd (upd (upd (upd (upd (upd (upd (upd (upd (upd (upd (upd (upd (fun _ => 0) 0 (-1)) 1 (-1)) 2 (-1)) 3 (-1)) 4 (-1)) 5 (-1)) 6 (-1)) 7 (-1)) 8 (-1)) 9 (-1)) 10 (-1)) 11 (-1)) 12 (-1)) 13 (-1))))) 6 (ad 6, .inl ((ca 6), 14, .inl (upd (upd (upd (upd (upd (upd (upd (upd (upd (upd (upd (upd (upd (upd (fun _ => 0) 0 (-1)) 1 (-1)) 2 (-1)) 3 (-1)) 4 (-1)) 5 (-1)) 6 (-1)) 7 (-1)) 8 (-1)) 9 (-1)) 10 (-1)) 11 (-1)) 12 (-1)) 13 (-1)))))) s.heap := hP
  have hl := lv_entry ([.ref (ad 0)]) (n := 2) (Nat.le_of_ble_eq_true rfl)
  rw [lg_entry_eq]
  generalize (lg_sl ([.ref (ad 0)]) ++ List.replicate (2 - (lg_sl ([.ref (ad 0)])).length) Slot.unset).toArray = ls at hl ⊢
  have hl : lv_has ls 2 [(0, .ref (ad 0))] := hl
  refine lv_aload_n hx hb dX13_next_0 rfl (lv_at hl 0 rfl) ?_
  refine va_get (D := (dC, dI)) (ci := 13) (v := .int 0) (C := RX13) (T := TX13) (N := 104) hx hb hts (jh hin_RX13) hown hK hP 0 rfl rfl 2 (by decide) (hts (.fieldLink RX13 272 "BookOfAllModel" "at" "I") (jm m_496)) (fun _ h9 => h9) rfl dX13_next_1 ?_
  refine lv_aload_n hx hb dX13_next_4 rfl (lv_at hl 0 rfl) ?_
  refine va_get (D := (dC, dI)) (ci := 13) (v := .int 0) (C := RX13) (T := TX13) (N := 104) hx hb hts (jh hin_RX13) hown hK hP 0 rfl rfl 1 (by decide) (hts (.fieldLink RX13 252 "BookOfAllModel" "size" "I") (jm m_492)) (fun _ h9 => h9) rfl dX13_next_5 ?_
  refine lv_icmp_ge (tgt := 52) hx hb dX13_next_8 (by decide) (fun _ => ?_) (fun z => absurd (by decide) z)
  refine lv_aload_n hx hb dX13_next_52 rfl (lv_at hl 0 rfl) ?_
  refine lv_aload_n hx hb dX13_next_53 rfl (lv_at hl 0 rfl) ?_
  refine va_get (D := (dC, dI)) (ci := 13) (v := .int 0) (C := RX13) (T := TX13) (N := 104) hx hb hts (jh hin_RX13) hown hK hP 0 rfl rfl 2 (by decide) (hts (.fieldLink RX13 272 "BookOfAllModel" "at" "I") (jm m_496)) (fun _ h9 => h9) rfl dX13_next_54 ?_
  refine va_put (D := (dC, dI)) (ci := 13) (v := .int 0) (ty := .int) (C := RX13) (T := TX13) (N := 104) hx hb hts (jh hin_RX13) tyX13 tyX13_ok nmX13 hown hK hP hD hS 0 rfl rfl 4 (by decide) (hts (.fieldLink RX13 275 "BookOfAllModel" "tokenAt" "I") (jm m_501)) (fun _ h9 => h9) rfl (by decide +kernel) rfl rfl (Nat.le_of_ble_eq_true rfl) dX13_next_57 (fun H locs hP hD hS => ?_)
  refine lv_aload_n hx hb dX13_next_60 rfl (lv_at hl 0 rfl) ?_
  refine lv_iconst (v := 0) hx hb dX13_next_61 (by decide) ?_
  refine va_put (D := (dC, dI)) (ci := 13) (v := .int 0) (ty := .int) (C := RX13) (T := TX13) (N := 104) hx hb hts (jh hin_RX13) tyX13 tyX13_ok nmX13 hown hK hP hD hS 0 rfl rfl 5 (by decide) (hts (.fieldLink RX13 278 "BookOfAllModel" "tokenValue" "I") (jm m_502)) (fun _ h9 => h9) rfl (by decide +kernel) rfl rfl (Nat.le_of_ble_eq_true rfl) dX13_next_62 (fun H locs hP hD hS => ?_)
  refine lv_aload_n hx hb dX13_next_65 rfl (lv_at hl 0 rfl) ?_
  refine lv_iconst (v := 0) hx hb dX13_next_66 (by decide) ?_
  refine va_put (D := (dC, dI)) (ci := 13) (v := .int 0) (ty := .int) (C := RX13) (T := TX13) (N := 104) hx hb hts (jh hin_RX13) tyX13 tyX13_ok nmX13 hown hK hP hD hS 0 rfl rfl 3 (by decide) (hts (.fieldLink RX13 281 "BookOfAllModel" "token" "I") (jm m_503)) (fun _ h9 => h9) rfl (by decide +kernel) rfl rfl (Nat.le_of_ble_eq_true rfl) dX13_next_67 (fun H locs hP hD hS => ?_)
  refine lv_aload_n hx hb dX13_next_70 rfl (lv_at hl 0 rfl) ?_
  refine va_get (D := (dC, dI)) (ci := 13) (v := .int 0) (C := RX13) (T := TX13) (N := 104) hx hb hts (jh hin_RX13) hown hK hP 0 rfl rfl 2 (by decide) (hts (.fieldLink RX13 272 "BookOfAllModel" "at" "I") (jm m_496)) (fun _ h9 => h9) rfl dX13_next_71 ?_
  refine lv_aload_n hx hb dX13_next_74 rfl (lv_at hl 0 rfl) ?_
  refine va_get (D := (dC, dI)) (ci := 13) (v := .int 0) (C := RX13) (T := TX13) (N := 104) hx hb hts (jh hin_RX13) hown hK hP 0 rfl rfl 1 (by decide) (hts (.fieldLink RX13 252 "BookOfAllModel" "size" "I") (jm m_492)) (fun _ h9 => h9) rfl dX13_next_75 ?_
  refine lv_icmp_ne (tgt := 82) hx hb dX13_next_78 (by decide) (fun z => absurd (by decide) z) (fun _ => ?_)
  exact W.vret hx hb hr (fun t ht hW => ⟨⟨(), rfl, trivial, by rw [ht]; exact hP, va_K.moved hW.alike hK, hD⟩, hS.F ht⟩) hS.2.2 dX13_next_81
set_option maxHeartbeats 500000 in
set_option maxRecDepth 100000 in
theorem kX13_push_2 (l : Launch) (dC : Nat → ClassId) (dI : Nat → Nat → Nat) (sz : Nat) (ad : Nat → Nat) (ca : Nat → ClassId) : Met l yX13_push (jk yX13_push cX13_push 2 none) ({ frames := 0, cells := 0, slots := 0, locals := 0 }) (va_Pc [.ref (ad 0), .int 0] (jw_P (dC, dI) ((jS (jS (mW ad ca) 5 (ad 5, .inl ((ca 5), 14, .inl (upd (upd (upd (upd (upd (upd (upd (upd (upd (upd (upd (upd (upd (upd (fun _ => 0) 0 (-1)) 1 (-1)) 2 (-1)) 3 (-1)) 4 (-1)) 5 (-1)) 6 (-1)) 7 (-1)) 8 (-1)) 9 (-1)) 10 (-1)) 11 (-1)) 12 (-1)) 13 (-1))))) 6 (ad 6, .inl ((ca 6), 14, .inl (upd (upd (upd (upd (upd (upd (upd (upd (upd (upd (upd (upd (upd (upd (fun _ => 0) 0 (-1)) 1 (-1)) 2 (-1)) 3 (-1)) 4 (-1)) 5 (-1)) 6 (-1)) 7 (-1)) 8 (-1)) 9 (-1)) 10 (-1)) 11 (-1)) 12 (-1)) 13 (-1)))))) (mT ca) sz)) (va_Qv (fun (_ : Unit) => True) (fun _ t => va_P (dC, dI) vwCl ((jS (jS (jS (jS (mW ad ca) 5 (ad 5, .inl ((ca 5), 14, .inl (upd (upd (upd (upd (upd (upd (upd (upd (upd (upd (upd (upd (upd (upd (fun _ => 0) 0 (-1)) 1 (-1)) 2 (-1)) 3 (-1)) 4 (-1)) 5 (-1)) 6 (-1)) 7 (-1)) 8 (-1)) 9 (-1)) 10 (-1)) 11 (-1)) 12 (-1)) 13 (-1))))) 6 (ad 6, .inl ((ca 6), 14, .inl (upd (upd (upd (upd (upd (upd (upd (upd (upd (upd (upd (upd (upd (upd (fun _ => 0) 0 (-1)) 1 (-1)) 2 (-1)) 3 (-1)) 4 (-1)) 5 (-1)) 6 (-1)) 7 (-1)) 8 (-1)) 9 (-1)) 10 (-1)) 11 (-1)) 12 (-1)) 13 (-1))))) 0 (ad 0, .inr (13, [.ref (ad 1), .int 0, .int 0, .int 0, .int 0, .int 0, .ref (ad 2), .int 1, .int 0, .int 0, .ref (ad 3), .ref (ad 4), .int 0, .ref (ad 5), .ref (ad 6), .int 0, .ref (ad 7), .ref (ad 8), .int 0, .ref (ad 9), .ref (ad 10), .ref (ad 11), .ref (ad 12), .ref (ad 13), .ref (ad 14), .ref (ad 15), .int 0, .ref (ad 16), .ref (ad 17), .ref (ad 18), .int 0, .ref (ad 19), .ref (ad 20), .ref (ad 21), .ref (ad 22), .ref (ad 23), .ref (ad 24), .int 0, .ref (ad 25), .ref (ad 26), .ref (ad 27), .ref (ad 28), .ref (ad 29), .ref (ad 30), .ref (ad 31), .ref (ad 32), .ref (ad 33), .ref (ad 34), .ref (ad 35), .ref (ad 36), .int 0, .ref (ad 37), .ref (ad 38), .ref (ad 39), .ref (ad 40), .ref (ad 41), .int 0, .ref (ad 42), .ref (ad 43), .ref (ad 44), .ref (ad 45), .ref (ad 46), .ref (ad 47), .ref (ad 48), .ref (ad 49), .ref (ad 50), .int 0, .ref (ad 51), .ref (ad 52), .ref (ad 53), .ref (ad 54), .int 0, .ref (ad 55), .ref (ad 56), .ref (ad 57), .ref (ad 58), .ref (ad 59), .ref (ad 60), .int 0, .ref (ad 61), .ref (ad 62), .ref (ad 63), .ref (ad 64), .ref (ad 65), .ref (ad 66), .ref (ad 67), .int 0, .ref (ad 68), .ref (ad 69), .ref (ad 70), .int 0, .ref (ad 71), .ref (ad 72), .ref (ad 73), .ref (ad 74), .ref (ad 75), .int 0, .int 0, .int 0, .int 0, .int 0, .ref (ad 76), .ref (ad 77), .ref (ad 78)]))) 2 (ad 2, .inl ((ca 2), 1200, .inl (upd (fun _ => 0) 0 0))))) t.heap ∧ va_K (dC, dI) vwCl (mT ca) t ∧ va_D (va_A ((jS (jS (mW ad ca) 5 (ad 5, .inl ((ca 5), 14, .inl (upd (upd (upd (upd (upd (upd (upd (upd (upd (upd (upd (upd (upd (upd (fun _ => 0) 0 (-1)) 1 (-1)) 2 (-1)) 3 (-1)) 4 (-1)) 5 (-1)) 6 (-1)) 7 (-1)) 8 (-1)) 9 (-1)) 10 (-1)) 11 (-1)) 12 (-1)) 13 (-1))))) 6 (ad 6, .inl ((ca 6), 14, .inl (upd (upd (upd (upd (upd (upd (upd (upd (upd (upd (upd (upd (upd (upd (fun _ => 0) 0 (-1)) 1 (-1)) 2 (-1)) 3 (-1)) 4 (-1)) 5 (-1)) 6 (-1)) 7 (-1)) 8 (-1)) 9 (-1)) 10 (-1)) 11 (-1)) 12 (-1)) 13 (-1)))))) sz) ((jS (jS (jS (jS (mW ad ca) 5 (ad 5, .inl ((ca 5), 14, .inl (upd (upd (upd (upd (upd (upd (upd (upd (upd (upd (upd (upd (upd (upd (fun _ => 0) 0 (-1)) 1 (-1)) 2 (-1)) 3 (-1)) 4 (-1)) 5 (-1)) 6 (-1)) 7 (-1)) 8 (-1)) 9 (-1)) 10 (-1)) 11 (-1)) 12 (-1)) 13 (-1))))) 6 (ad 6, .inl ((ca 6), 14, .inl (upd (upd (upd (upd (upd (upd (upd (upd (upd (upd (upd (upd (upd (upd (fun _ => 0) 0 (-1)) 1 (-1)) 2 (-1)) 3 (-1)) 4 (-1)) 5 (-1)) 6 (-1)) 7 (-1)) 8 (-1)) 9 (-1)) 10 (-1)) 11 (-1)) 12 (-1)) 13 (-1))))) 0 (ad 0, .inr (13, [.ref (ad 1), .int 0, .int 0, .int 0, .int 0, .int 0, .ref (ad 2), .int 1, .int 0, .int 0, .ref (ad 3), .ref (ad 4), .int 0, .ref (ad 5), .ref (ad 6), .int 0, .ref (ad 7), .ref (ad 8), .int 0, .ref (ad 9), .ref (ad 10), .ref (ad 11), .ref (ad 12), .ref (ad 13), .ref (ad 14), .ref (ad 15), .int 0, .ref (ad 16), .ref (ad 17), .ref (ad 18), .int 0, .ref (ad 19), .ref (ad 20), .ref (ad 21), .ref (ad 22), .ref (ad 23), .ref (ad 24), .int 0, .ref (ad 25), .ref (ad 26), .ref (ad 27), .ref (ad 28), .ref (ad 29), .ref (ad 30), .ref (ad 31), .ref (ad 32), .ref (ad 33), .ref (ad 34), .ref (ad 35), .ref (ad 36), .int 0, .ref (ad 37), .ref (ad 38), .ref (ad 39), .ref (ad 40), .ref (ad 41), .int 0, .ref (ad 42), .ref (ad 43), .ref (ad 44), .ref (ad 45), .ref (ad 46), .ref (ad 47), .ref (ad 48), .ref (ad 49), .ref (ad 50), .int 0, .ref (ad 51), .ref (ad 52), .ref (ad 53), .ref (ad 54), .int 0, .ref (ad 55), .ref (ad 56), .ref (ad 57), .ref (ad 58), .ref (ad 59), .ref (ad 60), .int 0, .ref (ad 61), .ref (ad 62), .ref (ad 63), .ref (ad 64), .ref (ad 65), .ref (ad 66), .ref (ad 67), .int 0, .ref (ad 68), .ref (ad 69), .ref (ad 70), .int 0, .ref (ad 71), .ref (ad 72), .ref (ad 73), .ref (ad 74), .ref (ad 75), .int 0, .int 0, .int 0, .int 0, .int 0, .ref (ad 76), .ref (ad 77), .ref (ad 78)]))) 2 (ad 2, .inl ((ca 2), 1200, .inl (upd (fun _ => 0) 0 0)))))) (va_A ((jS (jS (mW ad ca) 5 (ad 5, .inl ((ca 5), 14, .inl (upd (upd (upd (upd (upd (upd (upd (upd (upd (upd (upd (upd (upd (upd (fun _ => 0) 0 (-1)) 1 (-1)) 2 (-1)) 3 (-1)) 4 (-1)) 5 (-1)) 6 (-1)) 7 (-1)) 8 (-1)) 9 (-1)) 10 (-1)) 11 (-1)) 12 (-1)) 13 (-1))))) 6 (ad 6, .inl ((ca 6), 14, .inl (upd (upd (upd (upd (upd (upd (upd (upd (upd (upd (upd (upd (upd (upd (fun _ => 0) 0 (-1)) 1 (-1)) 2 (-1)) 3 (-1)) 4 (-1)) 5 (-1)) 6 (-1)) 7 (-1)) 8 (-1)) 9 (-1)) 10 (-1)) 11 (-1)) 12 (-1)) 13 (-1)))))) sz)) 0 0 (va_A ((jS (jS (mW ad ca) 5 (ad 5, .inl ((ca 5), 14, .inl (upd (upd (upd (upd (upd (upd (upd (upd (upd (upd (upd (upd (upd (upd (fun _ => 0) 0 (-1)) 1 (-1)) 2 (-1)) 3 (-1)) 4 (-1)) 5 (-1)) 6 (-1)) 7 (-1)) 8 (-1)) 9 (-1)) 10 (-1)) 11 (-1)) 12 (-1)) 13 (-1))))) 6 (ad 6, .inl ((ca 6), 14, .inl (upd (upd (upd (upd (upd (upd (upd (upd (upd (upd (upd (upd (upd (upd (fun _ => 0) 0 (-1)) 1 (-1)) 2 (-1)) 3 (-1)) 4 (-1)) 5 (-1)) 6 (-1)) 7 (-1)) 8 (-1)) 9 (-1)) 10 (-1)) 11 (-1)) 12 (-1)) 13 (-1)))))) sz) := by
  refine Met.ofW (cc := cX13_push) (maxL := 2) (ret := none) (by decide) rfl ?_
  intro p e s m args below meth c s₁ B hml hv
  obtain ⟨rfl, hsz, hP, hK, hD0⟩ := hv
  have hx := B.exec
  have hb := B.bytes
  have hr := B.returns
  have hts := atoms_spec (ws := (jk yX13_push cX13_push 2 none)) B.pre
  have hown : s.vm.findClass RX13 = some m.cls := findClass_of_methodNamed B.named
  have hlocks := B.notSynchronized
  subst hsz
  have hD := hD0.self (sz := s.heap.size)
  generalize hAe : (va_A ((jS (jS (mW ad ca) 5 (ad 5, .inl ((ca 5), 14, .inl (upd (upd (upd (upd (upd (upd (upd (upd (upd (upd (upd (upd (upd (upd (fun _ => 0) 0 (-1)) 1 (-1)) 2 (-1)) 3 (-1)) 4 (-1)) 5 (-1)) 6 (-1)) 7 (-1)) 8 (-1)) 9 (-1)) 10 (-1)) 11 (-1)) 12 (-1)) 13 (-1))))) 6 (ad 6, .inl ((ca 6), 14, .inl (upd (upd (upd (upd (upd (upd (upd (upd (upd (upd (upd (upd (upd (upd (fun _ => 0) 0 (-1)) 1 (-1)) 2 (-1)) 3 (-1)) 4 (-1)) 5 (-1)) 6 (-1)) 7 (-1)) 8 (-1)) 9 (-1)) 10 (-1)) 11 (-1)) 12 (-1)) 13 (-1)))))) s.heap.size) = A at hD ⊢
  have hA : ∀ q : Nat, s.heap.size ≤ q → A q := fun q h => by rw [← hAe]; exact Or.inr h
  have hS : va_S A s.heap s.heap [] := va_S.rf
  have hP : va_P (dC, dI) vwCl ((jS (jS (mW ad ca) 5 (ad 5, .inl ((ca 5), 14, .inl (upd (upd (upd (upd (upd (upd (upd (upd (upd (upd (upd (upd (upd (upd (fun _ => 0) 0 (-1)) 1 (-1)) 2 (-1)) 3 (-1)) 4 (-1)) 5 (-1)) 6 (-1)) 7 (-1)) 8 (-1)) 9 (-1)) 10 (-1)) 11 (-1)) 12 (-1)) 13 (-1))))) 6 (ad 6, .inl ((ca 6), 14, .inl (upd (upd (upd (upd (upd (upd (upd (upd (upd (upd (upd (upd (upd (upd (fun _ => 0) 0 (-1)) 1 (-1)) 2 (-1)) 3 (-1)) 4 (-1)) 5 (-1)) 6 (-1)) 7 (-1)) 8 (-1)) 9 (-1)) 10 (-1)) 11 (-1)) 12 (-1)) 13 (-1)))))) s.heap := hP
  have hl := lv_entry ([.ref (ad 0), .int 0]) (n := 2) (Nat.le_of_ble_eq_true rfl)
  rw [lg_entry_eq]
  generalize (lg_sl ([.ref (ad 0), .int 0]) ++ List.replicate (2 - (lg_sl ([.ref (ad 0), .int 0])).length) Slot.unset).toArray = ls at hl ⊢
  have hl : lv_has ls 2 [(0, .ref (ad 0)), (1, .int 0)] := hl
  refine lv_aload_n hx hb dX13_push_0 rfl (lv_at hl 0 rfl) ?_
  refine va_get (D := (dC, dI)) (ci := 13) (v := .ref (ad 2)) (C := RX13) (T := TX13) (N := 104) hx hb hts (jh hin_RX13) hown hK hP 0 rfl rfl 6 (by decide) (hts (.fieldLink RX13 13 "BookOfAllModel" "toCome" "[I") (jm m_3)) (fun _ h9 => h9) rfl dX13_push_1 ?_
  refine lv_aload_n hx hb dX13_push_4 rfl (lv_at hl 0 rfl) ?_
  refine va_get (D := (dC, dI)) (ci := 13) (v := .int 0) (C := RX13) (T := TX13) (N := 104) hx hb hts (jh hin_RX13) hown hK hP 0 rfl rfl 7 (by decide) (hts (.fieldLink RX13 295 "BookOfAllModel" "coming" "I") (jm m_497)) (fun _ h9 => h9) rfl dX13_push_5 ?_
  refine lv_iload_n hx hb dX13_push_8 rfl (lv_at hl 1 rfl) ?_
  refine va_iast hx hb hK hP hD hS 2 1 rfl rfl (vp_in_nI (n := 0) (by decide) (by decide)) dX13_push_9 (fun H locs hP hD hS => ?_)
  refine lv_aload_n hx hb dX13_push_10 rfl (lv_at hl 0 rfl) ?_
  refine lv_dup hx hb dX13_push_11 rfl ?_
  refine va_get (D := (dC, dI)) (ci := 13) (v := .int 0) (C := RX13) (T := TX13) (N := 104) hx hb hts (jh hin_RX13) hown hK hP 0 rfl rfl 7 (by decide) (hts (.fieldLink RX13 295 "BookOfAllModel" "coming" "I") (jm m_497)) (fun _ h9 => h9) rfl dX13_push_12 ?_
  refine lv_iconst (v := 1) hx hb dX13_push_15 (by decide) ?_
  refine lv_iadd hx hb dX13_push_16 ?_
  refine jt_i 1 (by decide) ?_
  refine va_put (D := (dC, dI)) (ci := 13) (v := .int 1) (ty := .int) (C := RX13) (T := TX13) (N := 104) hx hb hts (jh hin_RX13) tyX13 tyX13_ok nmX13 hown hK hP hD hS 0 rfl rfl 7 (by decide) (hts (.fieldLink RX13 295 "BookOfAllModel" "coming" "I") (jm m_497)) (fun _ h9 => h9) rfl (by decide +kernel) rfl rfl (Nat.le_of_ble_eq_true rfl) dX13_push_17 (fun H locs hP hD hS => ?_)
  exact W.vret hx hb hr (fun t ht hW => ⟨⟨(), rfl, trivial, by rw [ht]; exact hP, va_K.moved hW.alike hK, hD⟩, hS.F ht⟩) hS.2.2 dX13_push_20
set_option maxHeartbeats 500000 in
set_option maxRecDepth 100000 in
theorem kX13_clauses_2 (l : Launch) (dC : Nat → ClassId) (dI : Nat → Nat → Nat) (sz : Nat) (ad : Nat → Nat) (ca : Nat → ClassId) : Met l yX13_clauses (jk yX13_clauses cX13_clauses 2 (some .boolean)) ({ frames := 0, cells := 0, slots := 0, locals := 0 }) (va_Pc [.ref (ad 0)] (jw_P (dC, dI) ((jS (jS (jS (mW ad ca) 2 (ad 2, .inl ((ca 2), 1200, .inl (upd (fun _ => 0) 0 0)))) 5 (ad 5, .inl ((ca 5), 14, .inl (upd (upd (upd (upd (upd (upd (upd (upd (upd (upd (upd (upd (upd (upd (fun _ => 0) 0 (-1)) 1 (-1)) 2 (-1)) 3 (-1)) 4 (-1)) 5 (-1)) 6 (-1)) 7 (-1)) 8 (-1)) 9 (-1)) 10 (-1)) 11 (-1)) 12 (-1)) 13 (-1))))) 6 (ad 6, .inl ((ca 6), 14, .inl (upd (upd (upd (upd (upd (upd (upd (upd (upd (upd (upd (upd (upd (upd (fun _ => 0) 0 (-1)) 1 (-1)) 2 (-1)) 3 (-1)) 4 (-1)) 5 (-1)) 6 (-1)) 7 (-1)) 8 (-1)) 9 (-1)) 10 (-1)) 11 (-1)) 12 (-1)) 13 (-1)))))) (mT ca) sz)) (va_Qi (fun (r : Int32) (_ : Unit) => (r = 1)) (fun _ _ => True) (va_A [] sz)) 0 0 (va_A [] sz) := by
  refine Met.ofW (cc := cX13_clauses) (maxL := 2) (ret := (some .boolean)) (by decide) rfl ?_
  intro p e s m args below meth c s₁ B hml hv
  obtain ⟨rfl, hsz, hP, hK, hD0⟩ := hv
  have hx := B.exec
  have hb := B.bytes
  have hr := B.returns
  have hts := atoms_spec (ws := (jk yX13_clauses cX13_clauses 2 (some .boolean))) B.pre
  have hown : s.vm.findClass RX13 = some m.cls := findClass_of_methodNamed B.named
  have hlocks := B.notSynchronized
  subst hsz
  have hD := hD0
  generalize hAe : (va_A [] s.heap.size) = A
  have hA : ∀ q : Nat, s.heap.size ≤ q → A q := fun q h => by rw [← hAe]; exact Or.inr h
  have hS : va_S A s.heap s.heap [] := va_S.rf
  have hP : va_P (dC, dI) vwCl ((jS (jS (jS (mW ad ca) 2 (ad 2, .inl ((ca 2), 1200, .inl (upd (fun _ => 0) 0 0)))) 5 (ad 5, .inl ((ca 5), 14, .inl (upd (upd (upd (upd (upd (upd (upd (upd (upd (upd (upd (upd (upd (upd (fun _ => 0) 0 (-1)) 1 (-1)) 2 (-1)) 3 (-1)) 4 (-1)) 5 (-1)) 6 (-1)) 7 (-1)) 8 (-1)) 9 (-1)) 10 (-1)) 11 (-1)) 12 (-1)) 13 (-1))))) 6 (ad 6, .inl ((ca 6), 14, .inl (upd (upd (upd (upd (upd (upd (upd (upd (upd (upd (upd (upd (upd (upd (fun _ => 0) 0 (-1)) 1 (-1)) 2 (-1)) 3 (-1)) 4 (-1)) 5 (-1)) 6 (-1)) 7 (-1)) 8 (-1)) 9 (-1)) 10 (-1)) 11 (-1)) 12 (-1)) 13 (-1)))))) s.heap := hP
  have hl := lv_entry ([.ref (ad 0)]) (n := 2) (Nat.le_of_ble_eq_true rfl)
  rw [lg_entry_eq]
  generalize (lg_sl ([.ref (ad 0)]) ++ List.replicate (2 - (lg_sl ([.ref (ad 0)])).length) Slot.unset).toArray = ls at hl ⊢
  have hl : lv_has ls 2 [(0, .ref (ad 0))] := hl
  refine lv_aload_n hx hb dX13_clauses_0 rfl (lv_at hl 0 rfl) ?_
  refine va_get (D := (dC, dI)) (ci := 13) (v := .int 0) (C := RX13) (T := TX13) (N := 104) hx hb hts (jh hin_RX13) hown hK hP 0 rfl rfl 3 (by decide) (hts (.fieldLink RX13 281 "BookOfAllModel" "token" "I") (jm m_503)) (fun _ h9 => h9) rfl dX13_clauses_1 ?_
  refine lv_if_ne (tgt := 9) hx hb dX13_clauses_4 (by decide) (fun z => absurd (by decide) z) (fun _ => ?_)
  refine lv_iconst (v := 1) hx hb dX13_clauses_7 (by decide) ?_
  exact W.zret (v := 1) (ty := .boolean) hx hb hr rfl (fun t ht hW => ⟨⟨1, (), rfl, rfl, trivial⟩, hS.F ht⟩) hS.2.2 dX13_clauses_8
set_option maxHeartbeats 500000 in
set_option maxRecDepth 100000 in
theorem kX13_steps_2 (l : Launch) (dC : Nat → ClassId) (dI : Nat → Nat → Nat) (sz : Nat) (ad : Nat → Nat) (ca : Nat → ClassId) : Met l yX13_steps (jk yX13_steps cX13_steps 2 (some .boolean)) ({ frames := 1, cells := 0, slots := 0, locals := 21 }) (va_Pc [.ref (ad 0), .int 0] (jw_P (dC, dI) ((jS (jS (jS (mW ad ca) 2 (ad 2, .inl ((ca 2), 1200, .inl (upd (fun _ => 0) 0 0)))) 5 (ad 5, .inl ((ca 5), 14, .inl (upd (upd (upd (upd (upd (upd (upd (upd (upd (upd (upd (upd (upd (upd (fun _ => 0) 0 (-1)) 1 (-1)) 2 (-1)) 3 (-1)) 4 (-1)) 5 (-1)) 6 (-1)) 7 (-1)) 8 (-1)) 9 (-1)) 10 (-1)) 11 (-1)) 12 (-1)) 13 (-1))))) 6 (ad 6, .inl ((ca 6), 14, .inl (upd (upd (upd (upd (upd (upd (upd (upd (upd (upd (upd (upd (upd (upd (fun _ => 0) 0 (-1)) 1 (-1)) 2 (-1)) 3 (-1)) 4 (-1)) 5 (-1)) 6 (-1)) 7 (-1)) 8 (-1)) 9 (-1)) 10 (-1)) 11 (-1)) 12 (-1)) 13 (-1)))))) (mT ca) sz)) (va_Qi (fun (r : Int32) (_ : Unit) => (r = 1)) (fun _ _ => True) (va_A [] sz)) 0 0 (va_A [] sz) := by
  refine Met.ofW (cc := cX13_steps) (maxL := 2) (ret := (some .boolean)) (by decide) rfl ?_
  intro p e s m args below meth c s₁ B hml hv
  obtain ⟨rfl, hsz, hP, hK, hD0⟩ := hv
  have hx := B.exec
  have hb := B.bytes
  have hr := B.returns
  have hts := atoms_spec (ws := (jk yX13_steps cX13_steps 2 (some .boolean))) B.pre
  have hown : s.vm.findClass RX13 = some m.cls := findClass_of_methodNamed B.named
  have hlocks := B.notSynchronized
  subst hsz
  have hD := hD0
  generalize hAe : (va_A [] s.heap.size) = A
  have hA : ∀ q : Nat, s.heap.size ≤ q → A q := fun q h => by rw [← hAe]; exact Or.inr h
  have hS : va_S A s.heap s.heap [] := va_S.rf
  have hP : va_P (dC, dI) vwCl ((jS (jS (jS (mW ad ca) 2 (ad 2, .inl ((ca 2), 1200, .inl (upd (fun _ => 0) 0 0)))) 5 (ad 5, .inl ((ca 5), 14, .inl (upd (upd (upd (upd (upd (upd (upd (upd (upd (upd (upd (upd (upd (upd (fun _ => 0) 0 (-1)) 1 (-1)) 2 (-1)) 3 (-1)) 4 (-1)) 5 (-1)) 6 (-1)) 7 (-1)) 8 (-1)) 9 (-1)) 10 (-1)) 11 (-1)) 12 (-1)) 13 (-1))))) 6 (ad 6, .inl ((ca 6), 14, .inl (upd (upd (upd (upd (upd (upd (upd (upd (upd (upd (upd (upd (upd (upd (fun _ => 0) 0 (-1)) 1 (-1)) 2 (-1)) 3 (-1)) 4 (-1)) 5 (-1)) 6 (-1)) 7 (-1)) 8 (-1)) 9 (-1)) 10 (-1)) 11 (-1)) 12 (-1)) 13 (-1)))))) s.heap := hP
  have hl := lv_entry ([.ref (ad 0), .int 0]) (n := 2) (Nat.le_of_ble_eq_true rfl)
  rw [lg_entry_eq]
  generalize (lg_sl ([.ref (ad 0), .int 0]) ++ List.replicate (2 - (lg_sl ([.ref (ad 0), .int 0])).length) Slot.unset).toArray = ls at hl ⊢
  have hl : lv_has ls 2 [(0, .ref (ad 0)), (1, .int 0)] := hl
  refine lv_iload_n hx hb dX13_steps_0 rfl (lv_at hl 1 rfl) ?_
  refine lv_sipush (v := 1000) hx hb dX13_steps_1 (by decide) ?_
  refine lv_icmp_lt (tgt := 19) hx hb dX13_steps_4 (by decide) (fun _ => ?_) (fun z => absurd (by decide) z)
  refine lv_iload_n hx hb dX13_steps_19 rfl (lv_at hl 1 rfl) ?_
  refine lv_bipush (v := 100) hx hb dX13_steps_20 (by decide) ?_
  refine lv_icmp_lt (tgt := 49) hx hb dX13_steps_22 (by decide) (fun _ => ?_) (fun z => absurd (by decide) z)
  refine lv_iload_n hx hb dX13_steps_49 rfl (lv_at hl 1 rfl) ?_
  refine lv_tableIn (off := 66) (tgt := 116) hx hb dX13_steps_50 (by decide) (by decide) (by decide) (by decide) ?_
  refine lv_aload_n hx hb dX13_steps_116 rfl (lv_at hl 0 rfl) ?_
  refine jc_i (va_runV (As := []) (rest := []) ⟨hx, hb, hml, hown, hts⟩ (kX13_clauses_2 l dC dI _ ad ca) (cwV 0 hts (jgoodV m_512 m_513 m_514 m_96 m_515) rfl rfl rfl (by decide +kernel) ⟨Nat.le_of_ble_eq_true rfl, Nat.le_of_ble_eq_true rfl⟩) ⟨jw_blind, va_recv hK hP (ci := 13) (q0 := 0) rfl rfl, fun U hU hW => ⟨rfl, jw_of hU hW hP hK hD⟩⟩ rfl rfl hl.1 rfl (lv_room (Nat.le_of_ble_eq_true rfl)) dX13_steps_117 ⟨Nat.le_of_ble_eq_true rfl, Nat.le_of_ble_eq_true rfl⟩) hP hS hA (fun r_1 H locs hw_1 hP hS => ?_)
  have hw_1 : 1 = r_1 := Eq.symm hw_1
  subst hw_1
  exact W.zret (v := 1) (ty := .boolean) hx hb hr rfl (fun t ht hW => ⟨⟨1, (), rfl, rfl, trivial⟩, hS.F ht⟩) hS.2.2 dX13_steps_120
theorem jx0 {α : Type} {w : List α} {i : Nat} {a b : α} : (w.set i a).set i b = w.set i b := List.set_set ..
theorem jx1 {α : Type} {w m : List α} {i j : Nat} {b c : α} (h : j ≠ i) (e : w.set i b = m) : (w.set j c).set i b = m.set j c := by rw [List.set_comm c b h, e]
theorem jrP {D : va_G} {cl : List vw_C} {w w' : va_W} {H : Heap} (h : va_P D cl w H) (e : w = w') : va_P D cl w' H := e ▸ h
theorem jrD {A : Nat → Prop} {w w' : va_W} (h : va_D A w) (e : w = w') : va_D A w' := e ▸ h
set_option maxHeartbeats 1000000 in
set_option maxRecDepth 100000 in
theorem kX13_reads_2 (l : Launch) (dC : Nat → ClassId) (dI : Nat → Nat → Nat) (sz : Nat) (ad : Nat → Nat) (ca : Nat → ClassId) : Met l yX13_reads (jk yX13_reads cX13_reads 2 (some .int)) ({ frames := 2, cells := 0, slots := 0, locals := 42 }) (va_Pc [.ref (ad 0)] (jw_P (dC, dI) (mW ad ca) (mT ca) sz)) (va_Qi (fun (r : Int32) (_ : Unit) => (r = (-1))) (fun _ t => va_P (dC, dI) vwCl ((jS (jS (jS (mW ad ca) 2 (ad 2, .inl ((ca 2), 1200, .inl (upd (fun _ => 0) 0 0)))) 5 (ad 5, .inl ((ca 5), 14, .inl (upd (upd (upd (upd (upd (upd (upd (upd (upd (upd (upd (upd (upd (upd (fun _ => 0) 0 (-1)) 1 (-1)) 2 (-1)) 3 (-1)) 4 (-1)) 5 (-1)) 6 (-1)) 7 (-1)) 8 (-1)) 9 (-1)) 10 (-1)) 11 (-1)) 12 (-1)) 13 (-1))))) 6 (ad 6, .inl ((ca 6), 14, .inl (upd (upd (upd (upd (upd (upd (upd (upd (upd (upd (upd (upd (upd (upd (fun _ => 0) 0 (-1)) 1 (-1)) 2 (-1)) 3 (-1)) 4 (-1)) 5 (-1)) 6 (-1)) 7 (-1)) 8 (-1)) 9 (-1)) 10 (-1)) 11 (-1)) 12 (-1)) 13 (-1)))))) t.heap ∧ va_K (dC, dI) vwCl (mT ca) t ∧ va_D (va_A (mW ad ca) sz) ((jS (jS (jS (mW ad ca) 2 (ad 2, .inl ((ca 2), 1200, .inl (upd (fun _ => 0) 0 0)))) 5 (ad 5, .inl ((ca 5), 14, .inl (upd (upd (upd (upd (upd (upd (upd (upd (upd (upd (upd (upd (upd (upd (fun _ => 0) 0 (-1)) 1 (-1)) 2 (-1)) 3 (-1)) 4 (-1)) 5 (-1)) 6 (-1)) 7 (-1)) 8 (-1)) 9 (-1)) 10 (-1)) 11 (-1)) 12 (-1)) 13 (-1))))) 6 (ad 6, .inl ((ca 6), 14, .inl (upd (upd (upd (upd (upd (upd (upd (upd (upd (upd (upd (upd (upd (upd (fun _ => 0) 0 (-1)) 1 (-1)) 2 (-1)) 3 (-1)) 4 (-1)) 5 (-1)) 6 (-1)) 7 (-1)) 8 (-1)) 9 (-1)) 10 (-1)) 11 (-1)) 12 (-1)) 13 (-1))))))) (va_A (mW ad ca) sz)) 0 0 (va_A (mW ad ca) sz) := by
  refine Met.ofW (cc := cX13_reads) (maxL := 2) (ret := (some .int)) (by decide) rfl ?_
  intro p e s m args below meth c s₁ B hml hv
  obtain ⟨rfl, hsz, hP, hK, hD0⟩ := hv
  have hx := B.exec
  have hb := B.bytes
  have hr := B.returns
  have hts := atoms_spec (ws := (jk yX13_reads cX13_reads 2 (some .int))) B.pre
  have hown : s.vm.findClass RX13 = some m.cls := findClass_of_methodNamed B.named
  have hlocks := B.notSynchronized
  subst hsz
  have hD := hD0.self (sz := s.heap.size)
  generalize hAe : (va_A (mW ad ca) s.heap.size) = A at hD ⊢
  have hA : ∀ q : Nat, s.heap.size ≤ q → A q := fun q h => by rw [← hAe]; exact Or.inr h
  have hS : va_S A s.heap s.heap [] := va_S.rf
  have hP : va_P (dC, dI) vwCl (mW ad ca) s.heap := hP
  have hl := lv_entry ([.ref (ad 0)]) (n := 2) (Nat.le_of_ble_eq_true rfl)
  rw [lg_entry_eq]
  generalize (lg_sl ([.ref (ad 0)]) ++ List.replicate (2 - (lg_sl ([.ref (ad 0)])).length) Slot.unset).toArray = ls at hl ⊢
  have hl : lv_has ls 2 [(0, .ref (ad 0))] := hl
  refine lv_aload_n hx hb dX13_reads_0 rfl (lv_at hl 0 rfl) ?_
  refine lv_iconst (v := 0) hx hb dX13_reads_1 (by decide) ?_
  refine va_put (D := (dC, dI)) (ci := 13) (v := .int 0) (ty := .int) (C := RX13) (T := TX13) (N := 104) hx hb hts (jh hin_RX13) tyX13 tyX13_ok nmX13 hown hK hP hD hS 0 rfl rfl 2 (by decide) (hts (.fieldLink RX13 272 "BookOfAllModel" "at" "I") (jm m_496)) (fun _ h9 => h9) rfl (by decide +kernel) rfl rfl (Nat.le_of_ble_eq_true rfl) dX13_reads_2 (fun H locs hP hD hS => ?_)
  refine lv_aload_n hx hb dX13_reads_5 rfl (lv_at hl 0 rfl) ?_
  refine lv_iconst (v := 0) hx hb dX13_reads_6 (by decide) ?_
  refine va_put (D := (dC, dI)) (ci := 13) (v := .int 0) (ty := .int) (C := RX13) (T := TX13) (N := 104) hx hb hts (jh hin_RX13) tyX13 tyX13_ok nmX13 hown hK hP hD hS 0 rfl rfl 7 (by decide) (hts (.fieldLink RX13 295 "BookOfAllModel" "coming" "I") (jm m_497)) (fun _ h9 => h9) rfl (by decide +kernel) rfl rfl (Nat.le_of_ble_eq_true rfl) dX13_reads_7 (fun H locs hP hD hS => ?_)
  have hP := jrP hP jx0
  have hD := jrD hD jx0
  refine lv_aload_n hx hb dX13_reads_10 rfl (lv_at hl 0 rfl) ?_
  refine lv_iconst (v := 0) hx hb dX13_reads_11 (by decide) ?_
  refine va_put (D := (dC, dI)) (ci := 13) (v := .int 0) (ty := .int) (C := RX13) (T := TX13) (N := 104) hx hb hts (jh hin_RX13) tyX13 tyX13_ok nmX13 hown hK hP hD hS 0 rfl rfl 8 (by decide) (hts (.fieldLink RX13 304 "BookOfAllModel" "deep" "I") (jm m_498)) (fun _ h9 => h9) rfl (by decide +kernel) rfl rfl (Nat.le_of_ble_eq_true rfl) dX13_reads_12 (fun H locs hP hD hS => ?_)
  have hP := jrP hP jx0
  have hD := jrD hD jx0
  refine lv_aload_n hx hb dX13_reads_15 rfl (lv_at hl 0 rfl) ?_
  refine lv_iconst (v := 0) hx hb dX13_reads_16 (by decide) ?_
  refine va_put (D := (dC, dI)) (ci := 13) (v := .int 0) (ty := .int) (C := RX13) (T := TX13) (N := 104) hx hb hts (jh hin_RX13) tyX13 tyX13_ok nmX13 hown hK hP hD hS 0 rfl rfl 12 (by decide) (hts (.fieldLink RX13 298 "BookOfAllModel" "doing" "I") (jm m_499)) (fun _ h9 => h9) rfl (by decide +kernel) rfl rfl (Nat.le_of_ble_eq_true rfl) dX13_reads_17 (fun H locs hP hD hS => ?_)
  have hP := jrP hP jx0
  have hD := jrD hD jx0
  refine lv_aload_n hx hb dX13_reads_20 rfl (lv_at hl 0 rfl) ?_
  refine lv_iconst (v := 0) hx hb dX13_reads_21 (by decide) ?_
  refine va_put (D := (dC, dI)) (ci := 13) (v := .int 0) (ty := .int) (C := RX13) (T := TX13) (N := 104) hx hb hts (jh hin_RX13) tyX13 tyX13_ok nmX13 hown hK hP hD hS 0 rfl rfl 15 (by decide) (hts (.fieldLink RX13 361 "BookOfAllModel" "skips" "I") (jm m_500)) (fun _ h9 => h9) rfl (by decide +kernel) rfl rfl (Nat.le_of_ble_eq_true rfl) dX13_reads_22 (fun H locs hP hD hS => ?_)
  have hP := jrP hP jx0
  have hD := jrD hD jx0
  refine lv_iconst (v := 0) hx hb dX13_reads_25 (by decide) ?_
  refine lv_istore_n (lv' := [(1, .int 0), (0, .ref (ad 0))]) hx hb dX13_reads_26 rfl hl (by decide) rfl (fun ls hl => ?_)
  refine lv_iload_n hx hb dX13_reads_27 rfl (lv_at hl 0 rfl) ?_
  refine lv_bipush (v := 14) hx hb dX13_reads_28 (by decide) ?_
  refine lv_icmp_ge (tgt := 53) hx hb dX13_reads_30 (by decide) (fun z => absurd z (by decide)) (fun _ => ?_)
  refine lv_aload_n hx hb dX13_reads_33 rfl (lv_at hl 1 rfl) ?_
  refine va_get (D := (dC, dI)) (ci := 13) (v := .ref (ad 5)) (C := RX13) (T := TX13) (N := 104) hx hb hts (jh hin_RX13) hown hK hP 0 rfl rfl 13 (by decide) (hts (.fieldLink RX13 23 "BookOfAllModel" "slotBegin" "[I") (jm m_6)) (fun _ h9 => h9) (jg_n (Nat.ne_of_beq_eq_false rfl) (jg_n (Nat.ne_of_beq_eq_false rfl) (jg_n (Nat.ne_of_beq_eq_false rfl) (jg_n (Nat.ne_of_beq_eq_false rfl) (jg_n (Nat.ne_of_beq_eq_false rfl) rfl))))) dX13_reads_34 ?_
  refine lv_iload_n hx hb dX13_reads_37 rfl (lv_at hl 0 rfl) ?_
  refine lv_iconst (v := (-1)) hx hb dX13_reads_38 (by decide) ?_
  refine va_iast hx hb hK hP hD hS 5 4 rfl rfl (vp_in_nI (n := 0) (by decide) (by decide)) dX13_reads_39 (fun H locs hP hD hS => ?_)
  refine lv_aload_n hx hb dX13_reads_40 rfl (lv_at hl 1 rfl) ?_
  refine va_get (D := (dC, dI)) (ci := 13) (v := .ref (ad 6)) (C := RX13) (T := TX13) (N := 104) hx hb hts (jh hin_RX13) hown hK hP 0 rfl rfl 14 (by decide) (hts (.fieldLink RX13 26 "BookOfAllModel" "slotEnd" "[I") (jm m_7)) (fun _ h9 => h9) (jg_n (Nat.ne_of_beq_eq_false rfl) (jg_n (Nat.ne_of_beq_eq_false rfl) (jg_n (Nat.ne_of_beq_eq_false rfl) (jg_n (Nat.ne_of_beq_eq_false rfl) (jg_n (Nat.ne_of_beq_eq_false rfl) rfl))))) dX13_reads_41 ?_
  refine lv_iload_n hx hb dX13_reads_44 rfl (lv_at hl 0 rfl) ?_
  refine lv_iconst (v := (-1)) hx hb dX13_reads_45 (by decide) ?_
  refine va_iast hx hb hK hP hD hS 6 5 rfl rfl (vp_in_nI (n := 0) (by decide) (by decide)) dX13_reads_46 (fun H locs hP hD hS => ?_)
  refine lv_iinc (v := 1) (lv' := [(1, .int 1), (0, .ref (ad 0))]) hx hb dX13_reads_47 hl (k := 0) rfl (by decide) (by decide) rfl (fun ls hl => ?_)
  refine lv_goto (tgt := 27) hx hb dX13_reads_50 (by decide) ?_
  refine lv_iload_n hx hb dX13_reads_27 rfl (lv_at hl 0 rfl) ?_
  refine lv_bipush (v := 14) hx hb dX13_reads_28 (by decide) ?_
  refine lv_icmp_ge (tgt := 53) hx hb dX13_reads_30 (by decide) (fun z => absurd z (by decide)) (fun _ => ?_)
  refine lv_aload_n hx hb dX13_reads_33 rfl (lv_at hl 1 rfl) ?_
  refine va_get (D := (dC, dI)) (ci := 13) (v := .ref (ad 5)) (C := RX13) (T := TX13) (N := 104) hx hb hts (jh hin_RX13) hown hK hP 0 rfl rfl 13 (by decide) (hts (.fieldLink RX13 23 "BookOfAllModel" "slotBegin" "[I") (jm m_6)) (fun _ h9 => h9) (jg_n (Nat.ne_of_beq_eq_false rfl) (jg_n (Nat.ne_of_beq_eq_false rfl) (jg_n (Nat.ne_of_beq_eq_false rfl) (jg_n (Nat.ne_of_beq_eq_false rfl) (jg_n (Nat.ne_of_beq_eq_false rfl) rfl))))) dX13_reads_34 ?_
  refine lv_iload_n hx hb dX13_reads_37 rfl (lv_at hl 0 rfl) ?_
  refine lv_iconst (v := (-1)) hx hb dX13_reads_38 (by decide) ?_
  refine va_iast hx hb hK hP hD hS 5 4 rfl rfl (vp_in_nI (n := 1) (by decide) (by decide)) dX13_reads_39 (fun H locs hP hD hS => ?_)
  have hP := jrP hP (jx1 (Nat.ne_of_beq_eq_false rfl) jx0)
  have hD := jrD hD (jx1 (Nat.ne_of_beq_eq_false rfl) jx0)
  refine lv_aload_n hx hb dX13_reads_40 rfl (lv_at hl 1 rfl) ?_
  refine va_get (D := (dC, dI)) (ci := 13) (v := .ref (ad 6)) (C := RX13) (T := TX13) (N := 104) hx hb hts (jh hin_RX13) hown hK hP 0 rfl rfl 14 (by decide) (hts (.fieldLink RX13 26 "BookOfAllModel" "slotEnd" "[I") (jm m_7)) (fun _ h9 => h9) (jg_n (Nat.ne_of_beq_eq_false rfl) (jg_n (Nat.ne_of_beq_eq_false rfl) (jg_n (Nat.ne_of_beq_eq_false rfl) (jg_n (Nat.ne_of_beq_eq_false rfl) (jg_n (Nat.ne_of_beq_eq_false rfl) rfl))))) dX13_reads_41 ?_
  refine lv_iload_n hx hb dX13_reads_44 rfl (lv_at hl 0 rfl) ?_
  refine lv_iconst (v := (-1)) hx hb dX13_reads_45 (by decide) ?_
  refine va_iast hx hb hK hP hD hS 6 5 rfl rfl (vp_in_nI (n := 1) (by decide) (by decide)) dX13_reads_46 (fun H locs hP hD hS => ?_)
  have hP := jrP hP jx0
  have hD := jrD hD jx0
  refine lv_iinc (v := 2) (lv' := [(1, .int 2), (0, .ref (ad 0))]) hx hb dX13_reads_47 hl (k := 0) rfl (by decide) (by decide) rfl (fun ls hl => ?_)
  refine lv_goto (tgt := 27) hx hb dX13_reads_50 (by decide) ?_
  refine lv_iload_n hx hb dX13_reads_27 rfl (lv_at hl 0 rfl) ?_
  refine lv_bipush (v := 14) hx hb dX13_reads_28 (by decide) ?_
  refine lv_icmp_ge (tgt := 53) hx hb dX13_reads_30 (by decide) (fun z => absurd z (by decide)) (fun _ => ?_)
  refine lv_aload_n hx hb dX13_reads_33 rfl (lv_at hl 1 rfl) ?_
  refine va_get (D := (dC, dI)) (ci := 13) (v := .ref (ad 5)) (C := RX13) (T := TX13) (N := 104) hx hb hts (jh hin_RX13) hown hK hP 0 rfl rfl 13 (by decide) (hts (.fieldLink RX13 23 "BookOfAllModel" "slotBegin" "[I") (jm m_6)) (fun _ h9 => h9) (jg_n (Nat.ne_of_beq_eq_false rfl) (jg_n (Nat.ne_of_beq_eq_false rfl) (jg_n (Nat.ne_of_beq_eq_false rfl) (jg_n (Nat.ne_of_beq_eq_false rfl) (jg_n (Nat.ne_of_beq_eq_false rfl) rfl))))) dX13_reads_34 ?_
  refine lv_iload_n hx hb dX13_reads_37 rfl (lv_at hl 0 rfl) ?_
  refine lv_iconst (v := (-1)) hx hb dX13_reads_38 (by decide) ?_
  refine va_iast hx hb hK hP hD hS 5 4 rfl rfl (vp_in_nI (n := 2) (by decide) (by decide)) dX13_reads_39 (fun H locs hP hD hS => ?_)
  have hP := jrP hP (jx1 (Nat.ne_of_beq_eq_false rfl) jx0)
  have hD := jrD hD (jx1 (Nat.ne_of_beq_eq_false rfl) jx0)
  refine lv_aload_n hx hb dX13_reads_40 rfl (lv_at hl 1 rfl) ?_
  refine va_get (D := (dC, dI)) (ci := 13) (v := .ref (ad 6)) (C := RX13) (T := TX13) (N := 104) hx hb hts (jh hin_RX13) hown hK hP 0 rfl rfl 14 (by decide) (hts (.fieldLink RX13 26 "BookOfAllModel" "slotEnd" "[I") (jm m_7)) (fun _ h9 => h9) (jg_n (Nat.ne_of_beq_eq_false rfl) (jg_n (Nat.ne_of_beq_eq_false rfl) (jg_n (Nat.ne_of_beq_eq_false rfl) (jg_n (Nat.ne_of_beq_eq_false rfl) (jg_n (Nat.ne_of_beq_eq_false rfl) rfl))))) dX13_reads_41 ?_
  refine lv_iload_n hx hb dX13_reads_44 rfl (lv_at hl 0 rfl) ?_
  refine lv_iconst (v := (-1)) hx hb dX13_reads_45 (by decide) ?_
  refine va_iast hx hb hK hP hD hS 6 5 rfl rfl (vp_in_nI (n := 2) (by decide) (by decide)) dX13_reads_46 (fun H locs hP hD hS => ?_)
  have hP := jrP hP jx0
  have hD := jrD hD jx0
  refine lv_iinc (v := 3) (lv' := [(1, .int 3), (0, .ref (ad 0))]) hx hb dX13_reads_47 hl (k := 0) rfl (by decide) (by decide) rfl (fun ls hl => ?_)
  refine lv_goto (tgt := 27) hx hb dX13_reads_50 (by decide) ?_
  refine lv_iload_n hx hb dX13_reads_27 rfl (lv_at hl 0 rfl) ?_
  refine lv_bipush (v := 14) hx hb dX13_reads_28 (by decide) ?_
  refine lv_icmp_ge (tgt := 53) hx hb dX13_reads_30 (by decide) (fun z => absurd z (by decide)) (fun _ => ?_)
  refine lv_aload_n hx hb dX13_reads_33 rfl (lv_at hl 1 rfl) ?_
  refine va_get (D := (dC, dI)) (ci := 13) (v := .ref (ad 5)) (C := RX13) (T := TX13) (N := 104) hx hb hts (jh hin_RX13) hown hK hP 0 rfl rfl 13 (by decide) (hts (.fieldLink RX13 23 "BookOfAllModel" "slotBegin" "[I") (jm m_6)) (fun _ h9 => h9) (jg_n (Nat.ne_of_beq_eq_false rfl) (jg_n (Nat.ne_of_beq_eq_false rfl) (jg_n (Nat.ne_of_beq_eq_false rfl) (jg_n (Nat.ne_of_beq_eq_false rfl) (jg_n (Nat.ne_of_beq_eq_false rfl) rfl))))) dX13_reads_34 ?_
  refine lv_iload_n hx hb dX13_reads_37 rfl (lv_at hl 0 rfl) ?_
  refine lv_iconst (v := (-1)) hx hb dX13_reads_38 (by decide) ?_
  refine va_iast hx hb hK hP hD hS 5 4 rfl rfl (vp_in_nI (n := 3) (by decide) (by decide)) dX13_reads_39 (fun H locs hP hD hS => ?_)
  have hP := jrP hP (jx1 (Nat.ne_of_beq_eq_false rfl) jx0)
  have hD := jrD hD (jx1 (Nat.ne_of_beq_eq_false rfl) jx0)
  refine lv_aload_n hx hb dX13_reads_40 rfl (lv_at hl 1 rfl) ?_
  refine va_get (D := (dC, dI)) (ci := 13) (v := .ref (ad 6)) (C := RX13) (T := TX13) (N := 104) hx hb hts (jh hin_RX13) hown hK hP 0 rfl rfl 14 (by decide) (hts (.fieldLink RX13 26 "BookOfAllModel" "slotEnd" "[I") (jm m_7)) (fun _ h9 => h9) (jg_n (Nat.ne_of_beq_eq_false rfl) (jg_n (Nat.ne_of_beq_eq_false rfl) (jg_n (Nat.ne_of_beq_eq_false rfl) (jg_n (Nat.ne_of_beq_eq_false rfl) (jg_n (Nat.ne_of_beq_eq_false rfl) rfl))))) dX13_reads_41 ?_
  refine lv_iload_n hx hb dX13_reads_44 rfl (lv_at hl 0 rfl) ?_
  refine lv_iconst (v := (-1)) hx hb dX13_reads_45 (by decide) ?_
  refine va_iast hx hb hK hP hD hS 6 5 rfl rfl (vp_in_nI (n := 3) (by decide) (by decide)) dX13_reads_46 (fun H locs hP hD hS => ?_)
  have hP := jrP hP jx0
  have hD := jrD hD jx0
  refine lv_iinc (v := 4) (lv' := [(1, .int 4), (0, .ref (ad 0))]) hx hb dX13_reads_47 hl (k := 0) rfl (by decide) (by decide) rfl (fun ls hl => ?_)
  refine lv_goto (tgt := 27) hx hb dX13_reads_50 (by decide) ?_
  refine lv_iload_n hx hb dX13_reads_27 rfl (lv_at hl 0 rfl) ?_
  refine lv_bipush (v := 14) hx hb dX13_reads_28 (by decide) ?_
  refine lv_icmp_ge (tgt := 53) hx hb dX13_reads_30 (by decide) (fun z => absurd z (by decide)) (fun _ => ?_)
  refine lv_aload_n hx hb dX13_reads_33 rfl (lv_at hl 1 rfl) ?_
  refine va_get (D := (dC, dI)) (ci := 13) (v := .ref (ad 5)) (C := RX13) (T := TX13) (N := 104) hx hb hts (jh hin_RX13) hown hK hP 0 rfl rfl 13 (by decide) (hts (.fieldLink RX13 23 "BookOfAllModel" "slotBegin" "[I") (jm m_6)) (fun _ h9 => h9) (jg_n (Nat.ne_of_beq_eq_false rfl) (jg_n (Nat.ne_of_beq_eq_false rfl) (jg_n (Nat.ne_of_beq_eq_false rfl) (jg_n (Nat.ne_of_beq_eq_false rfl) (jg_n (Nat.ne_of_beq_eq_false rfl) rfl))))) dX13_reads_34 ?_
  refine lv_iload_n hx hb dX13_reads_37 rfl (lv_at hl 0 rfl) ?_
  refine lv_iconst (v := (-1)) hx hb dX13_reads_38 (by decide) ?_
  refine va_iast hx hb hK hP hD hS 5 4 rfl rfl (vp_in_nI (n := 4) (by decide) (by decide)) dX13_reads_39 (fun H locs hP hD hS => ?_)
  have hP := jrP hP (jx1 (Nat.ne_of_beq_eq_false rfl) jx0)
  have hD := jrD hD (jx1 (Nat.ne_of_beq_eq_false rfl) jx0)
  refine lv_aload_n hx hb dX13_reads_40 rfl (lv_at hl 1 rfl) ?_
  refine va_get (D := (dC, dI)) (ci := 13) (v := .ref (ad 6)) (C := RX13) (T := TX13) (N := 104) hx hb hts (jh hin_RX13) hown hK hP 0 rfl rfl 14 (by decide) (hts (.fieldLink RX13 26 "BookOfAllModel" "slotEnd" "[I") (jm m_7)) (fun _ h9 => h9) (jg_n (Nat.ne_of_beq_eq_false rfl) (jg_n (Nat.ne_of_beq_eq_false rfl) (jg_n (Nat.ne_of_beq_eq_false rfl) (jg_n (Nat.ne_of_beq_eq_false rfl) (jg_n (Nat.ne_of_beq_eq_false rfl) rfl))))) dX13_reads_41 ?_
  refine lv_iload_n hx hb dX13_reads_44 rfl (lv_at hl 0 rfl) ?_
  refine lv_iconst (v := (-1)) hx hb dX13_reads_45 (by decide) ?_
  refine va_iast hx hb hK hP hD hS 6 5 rfl rfl (vp_in_nI (n := 4) (by decide) (by decide)) dX13_reads_46 (fun H locs hP hD hS => ?_)
  have hP := jrP hP jx0
  have hD := jrD hD jx0
  refine lv_iinc (v := 5) (lv' := [(1, .int 5), (0, .ref (ad 0))]) hx hb dX13_reads_47 hl (k := 0) rfl (by decide) (by decide) rfl (fun ls hl => ?_)
  refine lv_goto (tgt := 27) hx hb dX13_reads_50 (by decide) ?_
  refine lv_iload_n hx hb dX13_reads_27 rfl (lv_at hl 0 rfl) ?_
  refine lv_bipush (v := 14) hx hb dX13_reads_28 (by decide) ?_
  refine lv_icmp_ge (tgt := 53) hx hb dX13_reads_30 (by decide) (fun z => absurd z (by decide)) (fun _ => ?_)
  refine lv_aload_n hx hb dX13_reads_33 rfl (lv_at hl 1 rfl) ?_
  refine va_get (D := (dC, dI)) (ci := 13) (v := .ref (ad 5)) (C := RX13) (T := TX13) (N := 104) hx hb hts (jh hin_RX13) hown hK hP 0 rfl rfl 13 (by decide) (hts (.fieldLink RX13 23 "BookOfAllModel" "slotBegin" "[I") (jm m_6)) (fun _ h9 => h9) (jg_n (Nat.ne_of_beq_eq_false rfl) (jg_n (Nat.ne_of_beq_eq_false rfl) (jg_n (Nat.ne_of_beq_eq_false rfl) (jg_n (Nat.ne_of_beq_eq_false rfl) (jg_n (Nat.ne_of_beq_eq_false rfl) rfl))))) dX13_reads_34 ?_
  refine lv_iload_n hx hb dX13_reads_37 rfl (lv_at hl 0 rfl) ?_
  refine lv_iconst (v := (-1)) hx hb dX13_reads_38 (by decide) ?_
  refine va_iast hx hb hK hP hD hS 5 4 rfl rfl (vp_in_nI (n := 5) (by decide) (by decide)) dX13_reads_39 (fun H locs hP hD hS => ?_)
  have hP := jrP hP (jx1 (Nat.ne_of_beq_eq_false rfl) jx0)
  have hD := jrD hD (jx1 (Nat.ne_of_beq_eq_false rfl) jx0)
  refine lv_aload_n hx hb dX13_reads_40 rfl (lv_at hl 1 rfl) ?_
  refine va_get (D := (dC, dI)) (ci := 13) (v := .ref (ad 6)) (C := RX13) (T := TX13) (N := 104) hx hb hts (jh hin_RX13) hown hK hP 0 rfl rfl 14 (by decide) (hts (.fieldLink RX13 26 "BookOfAllModel" "slotEnd" "[I") (jm m_7)) (fun _ h9 => h9) (jg_n (Nat.ne_of_beq_eq_false rfl) (jg_n (Nat.ne_of_beq_eq_false rfl) (jg_n (Nat.ne_of_beq_eq_false rfl) (jg_n (Nat.ne_of_beq_eq_false rfl) (jg_n (Nat.ne_of_beq_eq_false rfl) rfl))))) dX13_reads_41 ?_
  refine lv_iload_n hx hb dX13_reads_44 rfl (lv_at hl 0 rfl) ?_
  refine lv_iconst (v := (-1)) hx hb dX13_reads_45 (by decide) ?_
  refine va_iast hx hb hK hP hD hS 6 5 rfl rfl (vp_in_nI (n := 5) (by decide) (by decide)) dX13_reads_46 (fun H locs hP hD hS => ?_)
  have hP := jrP hP jx0
  have hD := jrD hD jx0
  refine lv_iinc (v := 6) (lv' := [(1, .int 6), (0, .ref (ad 0))]) hx hb dX13_reads_47 hl (k := 0) rfl (by decide) (by decide) rfl (fun ls hl => ?_)
  refine lv_goto (tgt := 27) hx hb dX13_reads_50 (by decide) ?_
  refine lv_iload_n hx hb dX13_reads_27 rfl (lv_at hl 0 rfl) ?_
  refine lv_bipush (v := 14) hx hb dX13_reads_28 (by decide) ?_
  refine lv_icmp_ge (tgt := 53) hx hb dX13_reads_30 (by decide) (fun z => absurd z (by decide)) (fun _ => ?_)
  refine lv_aload_n hx hb dX13_reads_33 rfl (lv_at hl 1 rfl) ?_
  refine va_get (D := (dC, dI)) (ci := 13) (v := .ref (ad 5)) (C := RX13) (T := TX13) (N := 104) hx hb hts (jh hin_RX13) hown hK hP 0 rfl rfl 13 (by decide) (hts (.fieldLink RX13 23 "BookOfAllModel" "slotBegin" "[I") (jm m_6)) (fun _ h9 => h9) (jg_n (Nat.ne_of_beq_eq_false rfl) (jg_n (Nat.ne_of_beq_eq_false rfl) (jg_n (Nat.ne_of_beq_eq_false rfl) (jg_n (Nat.ne_of_beq_eq_false rfl) (jg_n (Nat.ne_of_beq_eq_false rfl) rfl))))) dX13_reads_34 ?_
  refine lv_iload_n hx hb dX13_reads_37 rfl (lv_at hl 0 rfl) ?_
  refine lv_iconst (v := (-1)) hx hb dX13_reads_38 (by decide) ?_
  refine va_iast hx hb hK hP hD hS 5 4 rfl rfl (vp_in_nI (n := 6) (by decide) (by decide)) dX13_reads_39 (fun H locs hP hD hS => ?_)
  have hP := jrP hP (jx1 (Nat.ne_of_beq_eq_false rfl) jx0)
  have hD := jrD hD (jx1 (Nat.ne_of_beq_eq_false rfl) jx0)
  refine lv_aload_n hx hb dX13_reads_40 rfl (lv_at hl 1 rfl) ?_
  refine va_get (D := (dC, dI)) (ci := 13) (v := .ref (ad 6)) (C := RX13) (T := TX13) (N := 104) hx hb hts (jh hin_RX13) hown hK hP 0 rfl rfl 14 (by decide) (hts (.fieldLink RX13 26 "BookOfAllModel" "slotEnd" "[I") (jm m_7)) (fun _ h9 => h9) (jg_n (Nat.ne_of_beq_eq_false rfl) (jg_n (Nat.ne_of_beq_eq_false rfl) (jg_n (Nat.ne_of_beq_eq_false rfl) (jg_n (Nat.ne_of_beq_eq_false rfl) (jg_n (Nat.ne_of_beq_eq_false rfl) rfl))))) dX13_reads_41 ?_
  refine lv_iload_n hx hb dX13_reads_44 rfl (lv_at hl 0 rfl) ?_
  refine lv_iconst (v := (-1)) hx hb dX13_reads_45 (by decide) ?_
  refine va_iast hx hb hK hP hD hS 6 5 rfl rfl (vp_in_nI (n := 6) (by decide) (by decide)) dX13_reads_46 (fun H locs hP hD hS => ?_)
  have hP := jrP hP jx0
  have hD := jrD hD jx0
  refine lv_iinc (v := 7) (lv' := [(1, .int 7), (0, .ref (ad 0))]) hx hb dX13_reads_47 hl (k := 0) rfl (by decide) (by decide) rfl (fun ls hl => ?_)
  refine lv_goto (tgt := 27) hx hb dX13_reads_50 (by decide) ?_
  refine lv_iload_n hx hb dX13_reads_27 rfl (lv_at hl 0 rfl) ?_
  refine lv_bipush (v := 14) hx hb dX13_reads_28 (by decide) ?_
  refine lv_icmp_ge (tgt := 53) hx hb dX13_reads_30 (by decide) (fun z => absurd z (by decide)) (fun _ => ?_)
  refine lv_aload_n hx hb dX13_reads_33 rfl (lv_at hl 1 rfl) ?_
  refine va_get (D := (dC, dI)) (ci := 13) (v := .ref (ad 5)) (C := RX13) (T := TX13) (N := 104) hx hb hts (jh hin_RX13) hown hK hP 0 rfl rfl 13 (by decide) (hts (.fieldLink RX13 23 "BookOfAllModel" "slotBegin" "[I") (jm m_6)) (fun _ h9 => h9) (jg_n (Nat.ne_of_beq_eq_false rfl) (jg_n (Nat.ne_of_beq_eq_false rfl) (jg_n (Nat.ne_of_beq_eq_false rfl) (jg_n (Nat.ne_of_beq_eq_false rfl) (jg_n (Nat.ne_of_beq_eq_false rfl) rfl))))) dX13_reads_34 ?_
  refine lv_iload_n hx hb dX13_reads_37 rfl (lv_at hl 0 rfl) ?_
  refine lv_iconst (v := (-1)) hx hb dX13_reads_38 (by decide) ?_
  refine va_iast hx hb hK hP hD hS 5 4 rfl rfl (vp_in_nI (n := 7) (by decide) (by decide)) dX13_reads_39 (fun H locs hP hD hS => ?_)
  have hP := jrP hP (jx1 (Nat.ne_of_beq_eq_false rfl) jx0)
  have hD := jrD hD (jx1 (Nat.ne_of_beq_eq_false rfl) jx0)
  refine lv_aload_n hx hb dX13_reads_40 rfl (lv_at hl 1 rfl) ?_
  refine va_get (D := (dC, dI)) (ci := 13) (v := .ref (ad 6)) (C := RX13) (T := TX13) (N := 104) hx hb hts (jh hin_RX13) hown hK hP 0 rfl rfl 14 (by decide) (hts (.fieldLink RX13 26 "BookOfAllModel" "slotEnd" "[I") (jm m_7)) (fun _ h9 => h9) (jg_n (Nat.ne_of_beq_eq_false rfl) (jg_n (Nat.ne_of_beq_eq_false rfl) (jg_n (Nat.ne_of_beq_eq_false rfl) (jg_n (Nat.ne_of_beq_eq_false rfl) (jg_n (Nat.ne_of_beq_eq_false rfl) rfl))))) dX13_reads_41 ?_
  refine lv_iload_n hx hb dX13_reads_44 rfl (lv_at hl 0 rfl) ?_
  refine lv_iconst (v := (-1)) hx hb dX13_reads_45 (by decide) ?_
  refine va_iast hx hb hK hP hD hS 6 5 rfl rfl (vp_in_nI (n := 7) (by decide) (by decide)) dX13_reads_46 (fun H locs hP hD hS => ?_)
  have hP := jrP hP jx0
  have hD := jrD hD jx0
  refine lv_iinc (v := 8) (lv' := [(1, .int 8), (0, .ref (ad 0))]) hx hb dX13_reads_47 hl (k := 0) rfl (by decide) (by decide) rfl (fun ls hl => ?_)
  refine lv_goto (tgt := 27) hx hb dX13_reads_50 (by decide) ?_
  refine lv_iload_n hx hb dX13_reads_27 rfl (lv_at hl 0 rfl) ?_
  refine lv_bipush (v := 14) hx hb dX13_reads_28 (by decide) ?_
  refine lv_icmp_ge (tgt := 53) hx hb dX13_reads_30 (by decide) (fun z => absurd z (by decide)) (fun _ => ?_)
  refine lv_aload_n hx hb dX13_reads_33 rfl (lv_at hl 1 rfl) ?_
  refine va_get (D := (dC, dI)) (ci := 13) (v := .ref (ad 5)) (C := RX13) (T := TX13) (N := 104) hx hb hts (jh hin_RX13) hown hK hP 0 rfl rfl 13 (by decide) (hts (.fieldLink RX13 23 "BookOfAllModel" "slotBegin" "[I") (jm m_6)) (fun _ h9 => h9) (jg_n (Nat.ne_of_beq_eq_false rfl) (jg_n (Nat.ne_of_beq_eq_false rfl) (jg_n (Nat.ne_of_beq_eq_false rfl) (jg_n (Nat.ne_of_beq_eq_false rfl) (jg_n (Nat.ne_of_beq_eq_false rfl) rfl))))) dX13_reads_34 ?_
  refine lv_iload_n hx hb dX13_reads_37 rfl (lv_at hl 0 rfl) ?_
  refine lv_iconst (v := (-1)) hx hb dX13_reads_38 (by decide) ?_
  refine va_iast hx hb hK hP hD hS 5 4 rfl rfl (vp_in_nI (n := 8) (by decide) (by decide)) dX13_reads_39 (fun H locs hP hD hS => ?_)
  have hP := jrP hP (jx1 (Nat.ne_of_beq_eq_false rfl) jx0)
  have hD := jrD hD (jx1 (Nat.ne_of_beq_eq_false rfl) jx0)
  refine lv_aload_n hx hb dX13_reads_40 rfl (lv_at hl 1 rfl) ?_
  refine va_get (D := (dC, dI)) (ci := 13) (v := .ref (ad 6)) (C := RX13) (T := TX13) (N := 104) hx hb hts (jh hin_RX13) hown hK hP 0 rfl rfl 14 (by decide) (hts (.fieldLink RX13 26 "BookOfAllModel" "slotEnd" "[I") (jm m_7)) (fun _ h9 => h9) (jg_n (Nat.ne_of_beq_eq_false rfl) (jg_n (Nat.ne_of_beq_eq_false rfl) (jg_n (Nat.ne_of_beq_eq_false rfl) (jg_n (Nat.ne_of_beq_eq_false rfl) (jg_n (Nat.ne_of_beq_eq_false rfl) rfl))))) dX13_reads_41 ?_
  refine lv_iload_n hx hb dX13_reads_44 rfl (lv_at hl 0 rfl) ?_
  refine lv_iconst (v := (-1)) hx hb dX13_reads_45 (by decide) ?_
  refine va_iast hx hb hK hP hD hS 6 5 rfl rfl (vp_in_nI (n := 8) (by decide) (by decide)) dX13_reads_46 (fun H locs hP hD hS => ?_)
  have hP := jrP hP jx0
  have hD := jrD hD jx0
  refine lv_iinc (v := 9) (lv' := [(1, .int 9), (0, .ref (ad 0))]) hx hb dX13_reads_47 hl (k := 0) rfl (by decide) (by decide) rfl (fun ls hl => ?_)
  refine lv_goto (tgt := 27) hx hb dX13_reads_50 (by decide) ?_
  refine lv_iload_n hx hb dX13_reads_27 rfl (lv_at hl 0 rfl) ?_
  refine lv_bipush (v := 14) hx hb dX13_reads_28 (by decide) ?_
  refine lv_icmp_ge (tgt := 53) hx hb dX13_reads_30 (by decide) (fun z => absurd z (by decide)) (fun _ => ?_)
  refine lv_aload_n hx hb dX13_reads_33 rfl (lv_at hl 1 rfl) ?_
  refine va_get (D := (dC, dI)) (ci := 13) (v := .ref (ad 5)) (C := RX13) (T := TX13) (N := 104) hx hb hts (jh hin_RX13) hown hK hP 0 rfl rfl 13 (by decide) (hts (.fieldLink RX13 23 "BookOfAllModel" "slotBegin" "[I") (jm m_6)) (fun _ h9 => h9) (jg_n (Nat.ne_of_beq_eq_false rfl) (jg_n (Nat.ne_of_beq_eq_false rfl) (jg_n (Nat.ne_of_beq_eq_false rfl) (jg_n (Nat.ne_of_beq_eq_false rfl) (jg_n (Nat.ne_of_beq_eq_false rfl) rfl))))) dX13_reads_34 ?_
  refine lv_iload_n hx hb dX13_reads_37 rfl (lv_at hl 0 rfl) ?_
  refine lv_iconst (v := (-1)) hx hb dX13_reads_38 (by decide) ?_
  refine va_iast hx hb hK hP hD hS 5 4 rfl rfl (vp_in_nI (n := 9) (by decide) (by decide)) dX13_reads_39 (fun H locs hP hD hS => ?_)
  have hP := jrP hP (jx1 (Nat.ne_of_beq_eq_false rfl) jx0)
  have hD := jrD hD (jx1 (Nat.ne_of_beq_eq_false rfl) jx0)
  refine lv_aload_n hx hb dX13_reads_40 rfl (lv_at hl 1 rfl) ?_
  refine va_get (D := (dC, dI)) (ci := 13) (v := .ref (ad 6)) (C := RX13) (T := TX13) (N := 104) hx hb hts (jh hin_RX13) hown hK hP 0 rfl rfl 14 (by decide) (hts (.fieldLink RX13 26 "BookOfAllModel" "slotEnd" "[I") (jm m_7)) (fun _ h9 => h9) (jg_n (Nat.ne_of_beq_eq_false rfl) (jg_n (Nat.ne_of_beq_eq_false rfl) (jg_n (Nat.ne_of_beq_eq_false rfl) (jg_n (Nat.ne_of_beq_eq_false rfl) (jg_n (Nat.ne_of_beq_eq_false rfl) rfl))))) dX13_reads_41 ?_
  refine lv_iload_n hx hb dX13_reads_44 rfl (lv_at hl 0 rfl) ?_
  refine lv_iconst (v := (-1)) hx hb dX13_reads_45 (by decide) ?_
  refine va_iast hx hb hK hP hD hS 6 5 rfl rfl (vp_in_nI (n := 9) (by decide) (by decide)) dX13_reads_46 (fun H locs hP hD hS => ?_)
  have hP := jrP hP jx0
  have hD := jrD hD jx0
  refine lv_iinc (v := 10) (lv' := [(1, .int 10), (0, .ref (ad 0))]) hx hb dX13_reads_47 hl (k := 0) rfl (by decide) (by decide) rfl (fun ls hl => ?_)
  refine lv_goto (tgt := 27) hx hb dX13_reads_50 (by decide) ?_
  refine lv_iload_n hx hb dX13_reads_27 rfl (lv_at hl 0 rfl) ?_
  refine lv_bipush (v := 14) hx hb dX13_reads_28 (by decide) ?_
  refine lv_icmp_ge (tgt := 53) hx hb dX13_reads_30 (by decide) (fun z => absurd z (by decide)) (fun _ => ?_)
  refine lv_aload_n hx hb dX13_reads_33 rfl (lv_at hl 1 rfl) ?_
  refine va_get (D := (dC, dI)) (ci := 13) (v := .ref (ad 5)) (C := RX13) (T := TX13) (N := 104) hx hb hts (jh hin_RX13) hown hK hP 0 rfl rfl 13 (by decide) (hts (.fieldLink RX13 23 "BookOfAllModel" "slotBegin" "[I") (jm m_6)) (fun _ h9 => h9) (jg_n (Nat.ne_of_beq_eq_false rfl) (jg_n (Nat.ne_of_beq_eq_false rfl) (jg_n (Nat.ne_of_beq_eq_false rfl) (jg_n (Nat.ne_of_beq_eq_false rfl) (jg_n (Nat.ne_of_beq_eq_false rfl) rfl))))) dX13_reads_34 ?_
  refine lv_iload_n hx hb dX13_reads_37 rfl (lv_at hl 0 rfl) ?_
  refine lv_iconst (v := (-1)) hx hb dX13_reads_38 (by decide) ?_
  refine va_iast hx hb hK hP hD hS 5 4 rfl rfl (vp_in_nI (n := 10) (by decide) (by decide)) dX13_reads_39 (fun H locs hP hD hS => ?_)
  have hP := jrP hP (jx1 (Nat.ne_of_beq_eq_false rfl) jx0)
  have hD := jrD hD (jx1 (Nat.ne_of_beq_eq_false rfl) jx0)
  refine lv_aload_n hx hb dX13_reads_40 rfl (lv_at hl 1 rfl) ?_
  refine va_get (D := (dC, dI)) (ci := 13) (v := .ref (ad 6)) (C := RX13) (T := TX13) (N := 104) hx hb hts (jh hin_RX13) hown hK hP 0 rfl rfl 14 (by decide) (hts (.fieldLink RX13 26 "BookOfAllModel" "slotEnd" "[I") (jm m_7)) (fun _ h9 => h9) (jg_n (Nat.ne_of_beq_eq_false rfl) (jg_n (Nat.ne_of_beq_eq_false rfl) (jg_n (Nat.ne_of_beq_eq_false rfl) (jg_n (Nat.ne_of_beq_eq_false rfl) (jg_n (Nat.ne_of_beq_eq_false rfl) rfl))))) dX13_reads_41 ?_
  refine lv_iload_n hx hb dX13_reads_44 rfl (lv_at hl 0 rfl) ?_
  refine lv_iconst (v := (-1)) hx hb dX13_reads_45 (by decide) ?_
  refine va_iast hx hb hK hP hD hS 6 5 rfl rfl (vp_in_nI (n := 10) (by decide) (by decide)) dX13_reads_46 (fun H locs hP hD hS => ?_)
  have hP := jrP hP jx0
  have hD := jrD hD jx0
  refine lv_iinc (v := 11) (lv' := [(1, .int 11), (0, .ref (ad 0))]) hx hb dX13_reads_47 hl (k := 0) rfl (by decide) (by decide) rfl (fun ls hl => ?_)
  refine lv_goto (tgt := 27) hx hb dX13_reads_50 (by decide) ?_
  refine lv_iload_n hx hb dX13_reads_27 rfl (lv_at hl 0 rfl) ?_
  refine lv_bipush (v := 14) hx hb dX13_reads_28 (by decide) ?_
  refine lv_icmp_ge (tgt := 53) hx hb dX13_reads_30 (by decide) (fun z => absurd z (by decide)) (fun _ => ?_)
  refine lv_aload_n hx hb dX13_reads_33 rfl (lv_at hl 1 rfl) ?_
  refine va_get (D := (dC, dI)) (ci := 13) (v := .ref (ad 5)) (C := RX13) (T := TX13) (N := 104) hx hb hts (jh hin_RX13) hown hK hP 0 rfl rfl 13 (by decide) (hts (.fieldLink RX13 23 "BookOfAllModel" "slotBegin" "[I") (jm m_6)) (fun _ h9 => h9) (jg_n (Nat.ne_of_beq_eq_false rfl) (jg_n (Nat.ne_of_beq_eq_false rfl) (jg_n (Nat.ne_of_beq_eq_false rfl) (jg_n (Nat.ne_of_beq_eq_false rfl) (jg_n (Nat.ne_of_beq_eq_false rfl) rfl))))) dX13_reads_34 ?_
  refine lv_iload_n hx hb dX13_reads_37 rfl (lv_at hl 0 rfl) ?_
  refine lv_iconst (v := (-1)) hx hb dX13_reads_38 (by decide) ?_
  refine va_iast hx hb hK hP hD hS 5 4 rfl rfl (vp_in_nI (n := 11) (by decide) (by decide)) dX13_reads_39 (fun H locs hP hD hS => ?_)
  have hP := jrP hP (jx1 (Nat.ne_of_beq_eq_false rfl) jx0)
  have hD := jrD hD (jx1 (Nat.ne_of_beq_eq_false rfl) jx0)
  refine lv_aload_n hx hb dX13_reads_40 rfl (lv_at hl 1 rfl) ?_
  refine va_get (D := (dC, dI)) (ci := 13) (v := .ref (ad 6)) (C := RX13) (T := TX13) (N := 104) hx hb hts (jh hin_RX13) hown hK hP 0 rfl rfl 14 (by decide) (hts (.fieldLink RX13 26 "BookOfAllModel" "slotEnd" "[I") (jm m_7)) (fun _ h9 => h9) (jg_n (Nat.ne_of_beq_eq_false rfl) (jg_n (Nat.ne_of_beq_eq_false rfl) (jg_n (Nat.ne_of_beq_eq_false rfl) (jg_n (Nat.ne_of_beq_eq_false rfl) (jg_n (Nat.ne_of_beq_eq_false rfl) rfl))))) dX13_reads_41 ?_
  refine lv_iload_n hx hb dX13_reads_44 rfl (lv_at hl 0 rfl) ?_
  refine lv_iconst (v := (-1)) hx hb dX13_reads_45 (by decide) ?_
  refine va_iast hx hb hK hP hD hS 6 5 rfl rfl (vp_in_nI (n := 11) (by decide) (by decide)) dX13_reads_46 (fun H locs hP hD hS => ?_)
  have hP := jrP hP jx0
  have hD := jrD hD jx0
  refine lv_iinc (v := 12) (lv' := [(1, .int 12), (0, .ref (ad 0))]) hx hb dX13_reads_47 hl (k := 0) rfl (by decide) (by decide) rfl (fun ls hl => ?_)
  refine lv_goto (tgt := 27) hx hb dX13_reads_50 (by decide) ?_
  refine lv_iload_n hx hb dX13_reads_27 rfl (lv_at hl 0 rfl) ?_
  refine lv_bipush (v := 14) hx hb dX13_reads_28 (by decide) ?_
  refine lv_icmp_ge (tgt := 53) hx hb dX13_reads_30 (by decide) (fun z => absurd z (by decide)) (fun _ => ?_)
  refine lv_aload_n hx hb dX13_reads_33 rfl (lv_at hl 1 rfl) ?_
  refine va_get (D := (dC, dI)) (ci := 13) (v := .ref (ad 5)) (C := RX13) (T := TX13) (N := 104) hx hb hts (jh hin_RX13) hown hK hP 0 rfl rfl 13 (by decide) (hts (.fieldLink RX13 23 "BookOfAllModel" "slotBegin" "[I") (jm m_6)) (fun _ h9 => h9) (jg_n (Nat.ne_of_beq_eq_false rfl) (jg_n (Nat.ne_of_beq_eq_false rfl) (jg_n (Nat.ne_of_beq_eq_false rfl) (jg_n (Nat.ne_of_beq_eq_false rfl) (jg_n (Nat.ne_of_beq_eq_false rfl) rfl))))) dX13_reads_34 ?_
  refine lv_iload_n hx hb dX13_reads_37 rfl (lv_at hl 0 rfl) ?_
  refine lv_iconst (v := (-1)) hx hb dX13_reads_38 (by decide) ?_
  refine va_iast hx hb hK hP hD hS 5 4 rfl rfl (vp_in_nI (n := 12) (by decide) (by decide)) dX13_reads_39 (fun H locs hP hD hS => ?_)
  have hP := jrP hP (jx1 (Nat.ne_of_beq_eq_false rfl) jx0)
  have hD := jrD hD (jx1 (Nat.ne_of_beq_eq_false rfl) jx0)
  refine lv_aload_n hx hb dX13_reads_40 rfl (lv_at hl 1 rfl) ?_
  refine va_get (D := (dC, dI)) (ci := 13) (v := .ref (ad 6)) (C := RX13) (T := TX13) (N := 104) hx hb hts (jh hin_RX13) hown hK hP 0 rfl rfl 14 (by decide) (hts (.fieldLink RX13 26 "BookOfAllModel" "slotEnd" "[I") (jm m_7)) (fun _ h9 => h9) (jg_n (Nat.ne_of_beq_eq_false rfl) (jg_n (Nat.ne_of_beq_eq_false rfl) (jg_n (Nat.ne_of_beq_eq_false rfl) (jg_n (Nat.ne_of_beq_eq_false rfl) (jg_n (Nat.ne_of_beq_eq_false rfl) rfl))))) dX13_reads_41 ?_
  refine lv_iload_n hx hb dX13_reads_44 rfl (lv_at hl 0 rfl) ?_
  refine lv_iconst (v := (-1)) hx hb dX13_reads_45 (by decide) ?_
  refine va_iast hx hb hK hP hD hS 6 5 rfl rfl (vp_in_nI (n := 12) (by decide) (by decide)) dX13_reads_46 (fun H locs hP hD hS => ?_)
  have hP := jrP hP jx0
  have hD := jrD hD jx0
  refine lv_iinc (v := 13) (lv' := [(1, .int 13), (0, .ref (ad 0))]) hx hb dX13_reads_47 hl (k := 0) rfl (by decide) (by decide) rfl (fun ls hl => ?_)
  refine lv_goto (tgt := 27) hx hb dX13_reads_50 (by decide) ?_
  refine lv_iload_n hx hb dX13_reads_27 rfl (lv_at hl 0 rfl) ?_
  refine lv_bipush (v := 14) hx hb dX13_reads_28 (by decide) ?_
  refine lv_icmp_ge (tgt := 53) hx hb dX13_reads_30 (by decide) (fun z => absurd z (by decide)) (fun _ => ?_)
  refine lv_aload_n hx hb dX13_reads_33 rfl (lv_at hl 1 rfl) ?_
  refine va_get (D := (dC, dI)) (ci := 13) (v := .ref (ad 5)) (C := RX13) (T := TX13) (N := 104) hx hb hts (jh hin_RX13) hown hK hP 0 rfl rfl 13 (by decide) (hts (.fieldLink RX13 23 "BookOfAllModel" "slotBegin" "[I") (jm m_6)) (fun _ h9 => h9) (jg_n (Nat.ne_of_beq_eq_false rfl) (jg_n (Nat.ne_of_beq_eq_false rfl) (jg_n (Nat.ne_of_beq_eq_false rfl) (jg_n (Nat.ne_of_beq_eq_false rfl) (jg_n (Nat.ne_of_beq_eq_false rfl) rfl))))) dX13_reads_34 ?_
  refine lv_iload_n hx hb dX13_reads_37 rfl (lv_at hl 0 rfl) ?_
  refine lv_iconst (v := (-1)) hx hb dX13_reads_38 (by decide) ?_
  refine va_iast hx hb hK hP hD hS 5 4 rfl rfl (vp_in_nI (n := 13) (by decide) (by decide)) dX13_reads_39 (fun H locs hP hD hS => ?_)
  have hP := jrP hP (jx1 (Nat.ne_of_beq_eq_false rfl) jx0)
  have hD := jrD hD (jx1 (Nat.ne_of_beq_eq_false rfl) jx0)
  refine lv_aload_n hx hb dX13_reads_40 rfl (lv_at hl 1 rfl) ?_
  refine va_get (D := (dC, dI)) (ci := 13) (v := .ref (ad 6)) (C := RX13) (T := TX13) (N := 104) hx hb hts (jh hin_RX13) hown hK hP 0 rfl rfl 14 (by decide) (hts (.fieldLink RX13 26 "BookOfAllModel" "slotEnd" "[I") (jm m_7)) (fun _ h9 => h9) (jg_n (Nat.ne_of_beq_eq_false rfl) (jg_n (Nat.ne_of_beq_eq_false rfl) (jg_n (Nat.ne_of_beq_eq_false rfl) (jg_n (Nat.ne_of_beq_eq_false rfl) (jg_n (Nat.ne_of_beq_eq_false rfl) rfl))))) dX13_reads_41 ?_
  refine lv_iload_n hx hb dX13_reads_44 rfl (lv_at hl 0 rfl) ?_
  refine lv_iconst (v := (-1)) hx hb dX13_reads_45 (by decide) ?_
  refine va_iast hx hb hK hP hD hS 6 5 rfl rfl (vp_in_nI (n := 13) (by decide) (by decide)) dX13_reads_46 (fun H locs hP hD hS => ?_)
  have hP := jrP hP jx0
  have hD := jrD hD jx0
  refine lv_iinc (v := 14) (lv' := [(1, .int 14), (0, .ref (ad 0))]) hx hb dX13_reads_47 hl (k := 0) rfl (by decide) (by decide) rfl (fun ls hl => ?_)
  refine lv_goto (tgt := 27) hx hb dX13_reads_50 (by decide) ?_
  refine lv_iload_n hx hb dX13_reads_27 rfl (lv_at hl 0 rfl) ?_
  refine lv_bipush (v := 14) hx hb dX13_reads_28 (by decide) ?_
  refine lv_icmp_ge (tgt := 53) hx hb dX13_reads_30 (by decide) (fun _ => ?_) (fun z => absurd (by decide) z)
  refine lv_aload_n hx hb dX13_reads_53 rfl (lv_at hl 1 rfl) ?_
  refine jcw_v (va_runV (As := []) (rest := []) ⟨hx, hb, hml, hown, hts⟩ (kX13_next_2 l dC dI _ ad ca) (cwV 0 hts (jgoodV m_504 m_505 m_506 m_96 m_507) rfl rfl rfl (by decide +kernel) ⟨Nat.le_of_ble_eq_true rfl, Nat.le_of_ble_eq_true rfl⟩) ⟨jw_blind, va_recv hK hP (ci := 13) (q0 := 0) rfl rfl, fun U hU hW => ⟨rfl, jw_of hU hW hP hK hD⟩⟩ rfl rfl hl.1 rfl (lv_room (Nat.le_of_ble_eq_true rfl)) dX13_reads_54 ⟨Nat.le_of_ble_eq_true rfl, Nat.le_of_ble_eq_true rfl⟩) hD hS hA (fun H locs hw_1 hP hK hD hS => ?_)
  refine lv_aload_n hx hb dX13_reads_57 rfl (lv_at hl 1 rfl) ?_
  refine lv_iconst (v := 0) hx hb dX13_reads_58 (by decide) ?_
  refine jcw_v (va_runV (As := [.int 0]) (rest := []) ⟨hx, hb, hml, hown, hts⟩ (kX13_push_2 l dC dI _ ad ca) (cwV 1 hts (jgoodV m_508 m_509 m_510 m_96 m_511) rfl rfl rfl (by decide +kernel) ⟨Nat.le_of_ble_eq_true rfl, Nat.le_of_ble_eq_true rfl⟩) ⟨jw_blind, va_recv hK hP (ci := 13) (q0 := 0) rfl rfl, fun U hU hW => ⟨rfl, jw_of hU hW hP hK hD⟩⟩ rfl rfl hl.1 rfl (lv_room (Nat.le_of_ble_eq_true rfl)) dX13_reads_59 ⟨Nat.le_of_ble_eq_true rfl, Nat.le_of_ble_eq_true rfl⟩) hD hS hA (fun H locs hw_2 hP hK hD hS => ?_)
  refine lv_aload_n hx hb dX13_reads_62 rfl (lv_at hl 1 rfl) ?_
  refine va_get (D := (dC, dI)) (ci := 13) (v := .int 1) (C := RX13) (T := TX13) (N := 104) hx hb hts (jh hin_RX13) hown hK hP 0 rfl rfl 7 (by decide) (hts (.fieldLink RX13 295 "BookOfAllModel" "coming" "I") (jm m_497)) (fun _ h9 => h9) rfl dX13_reads_63 ?_
  refine lv_if_le (tgt := 100) hx hb dX13_reads_66 (by decide) (fun z => absurd z (by decide)) (fun _ => ?_)
  refine lv_aload_n hx hb dX13_reads_69 rfl (lv_at hl 1 rfl) ?_
  refine lv_dup hx hb dX13_reads_70 rfl ?_
  refine va_get (D := (dC, dI)) (ci := 13) (v := .int 1) (C := RX13) (T := TX13) (N := 104) hx hb hts (jh hin_RX13) hown hK hP 0 rfl rfl 7 (by decide) (hts (.fieldLink RX13 295 "BookOfAllModel" "coming" "I") (jm m_497)) (fun _ h9 => h9) rfl dX13_reads_71 ?_
  refine lv_iconst (v := 1) hx hb dX13_reads_74 (by decide) ?_
  refine lv_isub hx hb dX13_reads_75 ?_
  refine jt_i 0 (by decide) ?_
  refine va_put (D := (dC, dI)) (ci := 13) (v := .int 0) (ty := .int) (C := RX13) (T := TX13) (N := 104) hx hb hts (jh hin_RX13) tyX13 tyX13_ok nmX13 hown hK hP hD hS 0 rfl rfl 7 (by decide) (hts (.fieldLink RX13 295 "BookOfAllModel" "coming" "I") (jm m_497)) (fun _ h9 => h9) rfl (by decide +kernel) rfl rfl (Nat.le_of_ble_eq_true rfl) dX13_reads_76 (fun H locs hP hD hS => ?_)
  have hP := jrP hP (jx1 (Nat.ne_of_beq_eq_false rfl) jx0)
  have hD := jrD hD (jx1 (Nat.ne_of_beq_eq_false rfl) jx0)
  refine lv_aload_n hx hb dX13_reads_79 rfl (lv_at hl 1 rfl) ?_
  refine lv_aload_n hx hb dX13_reads_80 rfl (lv_at hl 1 rfl) ?_
  refine va_get (D := (dC, dI)) (ci := 13) (v := .ref (ad 2)) (C := RX13) (T := TX13) (N := 104) hx hb hts (jh hin_RX13) hown hK hP 0 rfl rfl 6 (by decide) (hts (.fieldLink RX13 13 "BookOfAllModel" "toCome" "[I") (jm m_3)) (fun _ h9 => h9) rfl dX13_reads_81 ?_
  refine lv_aload_n hx hb dX13_reads_84 rfl (lv_at hl 1 rfl) ?_
  refine va_get (D := (dC, dI)) (ci := 13) (v := .int 0) (C := RX13) (T := TX13) (N := 104) hx hb hts (jh hin_RX13) hown hK hP 0 rfl rfl 7 (by decide) (hts (.fieldLink RX13 295 "BookOfAllModel" "coming" "I") (jm m_497)) (fun _ h9 => h9) rfl dX13_reads_85 ?_
  refine va_iald hx hb hK hP 2 1 rfl rfl (vp_in_nI (n := 0) (by decide) (by decide)) dX13_reads_88 ?_
  refine jt_i 0 (by decide) ?_
  refine jc_i (va_runV (As := [.int 0]) (rest := []) ⟨hx, hb, hml, hown, hts⟩ (kX13_steps_2 l dC dI _ ad ca) (cwV 1 hts (jgoodV m_516 m_517 m_518 m_96 m_519) rfl rfl rfl (by decide +kernel) ⟨Nat.le_of_ble_eq_true rfl, Nat.le_of_ble_eq_true rfl⟩) ⟨jw_blind, va_recv hK hP (ci := 13) (q0 := 0) rfl rfl, fun U hU hW => ⟨rfl, jw_of hU hW hP hK hD⟩⟩ rfl rfl hl.1 rfl (lv_room (Nat.le_of_ble_eq_true rfl)) dX13_reads_89 ⟨Nat.le_of_ble_eq_true rfl, Nat.le_of_ble_eq_true rfl⟩) hP hS hA (fun r_3 H locs hw_3 hP hS => ?_)
  have hw_3 : 1 = r_3 := Eq.symm hw_3
  subst hw_3
  refine lv_if_ne (tgt := 62) hx hb dX13_reads_92 (by decide) (fun _ => ?_) (fun z => absurd z (by decide))
  refine lv_aload_n hx hb dX13_reads_62 rfl (lv_at hl 1 rfl) ?_
  refine va_get (D := (dC, dI)) (ci := 13) (v := .int 0) (C := RX13) (T := TX13) (N := 104) hx hb hts (jh hin_RX13) hown hK hP 0 rfl rfl 7 (by decide) (hts (.fieldLink RX13 295 "BookOfAllModel" "coming" "I") (jm m_497)) (fun _ h9 => h9) rfl dX13_reads_63 ?_
  refine lv_if_le (tgt := 100) hx hb dX13_reads_66 (by decide) (fun _ => ?_) (fun z => absurd (by decide) z)
  refine lv_iconst (v := (-1)) hx hb dX13_reads_100 (by decide) ?_
  exact W.iret (v := (-1)) hx hb hr (fun t ht hW => ⟨⟨(-1), (), rfl, rfl, by rw [ht]; exact hP, va_K.moved hW.alike hK, hD⟩, hS.F ht⟩) hS.2.2 dX13_reads_101
