set_option maxHeartbeats 500000 in
set_option maxRecDepth 100000 in
theorem tX12_line (l : Launch) (dC : Nat → ClassId) (dI : Nat → Nat → Nat) (sz : Nat) (ad : Nat → Nat) (ca : Nat → ClassId) (p1 : Int32) (p2 : Int32) (p3 : Int32) : Met l yX12_line (jk yX12_line cX12_line 7 (some .int)) ({ frames := 2, cells := 0, slots := 0, locals := 44 }) (va_Pc [.ref (ad 0), .int p1, .int p2, .int p3] (jw_P (dC, dI) (xW ad ca) (xT ca) sz)) (va_Qi (fun (r : Int32) (_ : Unit) => (r = (-1))) (fun _ _ => True) (va_A [] sz)) 0 0 (va_A [] sz) := by
  refine Met.ofW (cc := cX12_line) (maxL := 7) (ret := (some .int)) (by decide) rfl ?_
  intro p e s m args below meth c s₁ B hml hv
  obtain ⟨rfl, hsz, hP, hK, hD0⟩ := hv
  have hx := B.exec
  have hb := B.bytes
  have hr := B.returns
  have hts := atoms_spec (ws := (jk yX12_line cX12_line 7 (some .int))) B.pre
  have hown : s.vm.findClass RX12 = some m.cls := findClass_of_methodNamed B.named
  have hlocks := B.notSynchronized
  subst hsz
  have hD := hD0
  generalize hAe : (va_A [] s.heap.size) = A
  have hA : ∀ q : Nat, s.heap.size ≤ q → A q := fun q h => by rw [← hAe]; exact Or.inr h
  have hS : va_S A s.heap s.heap [] := va_S.rf
  have hP : va_P (dC, dI) vwCl (xW ad ca) s.heap := hP
  have hl := lv_entry ([.ref (ad 0), .int p1, .int p2, .int p3]) (n := 7) (Nat.le_of_ble_eq_true rfl)
  rw [lg_entry_eq]
  generalize (lg_sl ([.ref (ad 0), .int p1, .int p2, .int p3]) ++ List.replicate (7 - (lg_sl ([.ref (ad 0), .int p1, .int p2, .int p3])).length) Slot.unset).toArray = ls at hl ⊢
  have hl : lv_has ls 7 [(0, .ref (ad 0)), (1, .int p1), (2, .int p2), (3, .int p3)] := hl
  refine lv_aload_n hx hb dX12_line_0 rfl (lv_at hl 0 rfl) ?_
  refine lv_iload_n hx hb dX12_line_1 rfl (lv_at hl 1 rfl) ?_
  refine lv_iconst (v := 0) hx hb dX12_line_2 (by decide) ?_
  refine jc_q (va_runV (As := [.int p1, .int 0]) (rest := []) ⟨hx, hb, hml, hown, hts⟩ (kX12_entryOfKind_4 l dC dI _ ad ca p1) (cwV 2 hts (jgoodV m_324 m_325 m_326 m_210 m_327) rfl rfl rfl (by decide +kernel) ⟨Nat.le_of_ble_eq_true rfl, Nat.le_of_ble_eq_true rfl⟩) ⟨jw_blind, va_recv hK hP (ci := 12) (q0 := 0) rfl rfl, fun U hU hW => ⟨rfl, jw_of hU hW hP hK hD⟩⟩ rfl rfl hl.1 rfl (lv_room (Nat.le_of_ble_eq_true rfl)) dX12_line_3 ⟨Nat.le_of_ble_eq_true rfl, Nat.le_of_ble_eq_true rfl⟩) hP hS hA (fun r_1 H locs hw_1 hP hS => ?_)
  have hw_1 : none = r_1 := Eq.symm hw_1
  subst hw_1
  refine jt_q Value.null rfl ?_
  refine lv_astoreN (lv' := [(4, .null), (0, .ref (ad 0)), (1, .int p1), (2, .int p2), (3, .int p3)]) hx hb dX12_line_6 hl (by decide) rfl (fun ls hl => ?_)
  refine lv_aloadN hx hb dX12_line_8 (lv_at hl 0 rfl) ?_
  refine lv_ifnullN (tgt := 39) hx hb dX12_line_10 (by decide) ?_
  refine lv_iconst (v := (-1)) hx hb dX12_line_39 (by decide) ?_
  exact W.iret (v := (-1)) hx hb hr (fun t ht hW => ⟨⟨(-1), (), rfl, rfl, trivial⟩, hS.F ht⟩) hS.2.2 dX12_line_40
set_option maxHeartbeats 500000 in
set_option maxRecDepth 100000 in
theorem kX12_livingHandAt_2 (l : Launch) (dC : Nat → ClassId) (dI : Nat → Nat → Nat) (sz : Nat) (ad : Nat → Nat) (ca : Nat → ClassId) (p1 : Int32) : Met l yX12_livingHandAt (jk yX12_livingHandAt cX12_livingHandAt 3 (some (.object "BookOfAll$Hand"))) ({ frames := 1, cells := 0, slots := 0, locals := 21 }) (va_Pc [.ref (ad 0), .int p1] (jw_P (dC, dI) (xW ad ca) (xT ca) sz)) (va_Qq (fun (r : Option Nat) (_ : Unit) => (r = none)) (fun _ _ => True) (va_A [] sz)) 0 0 (va_A [] sz) := by
  refine Met.ofW (cc := cX12_livingHandAt) (maxL := 3) (ret := (some (.object "BookOfAll$Hand"))) (by decide) rfl ?_
  intro p e s m args below meth c s₁ B hml hv
  obtain ⟨rfl, hsz, hP, hK, hD0⟩ := hv
  have hx := B.exec
  have hb := B.bytes
  have hr := B.returns
  have hts := atoms_spec (ws := (jk yX12_livingHandAt cX12_livingHandAt 3 (some (.object "BookOfAll$Hand")))) B.pre
  have hown : s.vm.findClass RX12 = some m.cls := findClass_of_methodNamed B.named
  have hlocks := B.notSynchronized
  subst hsz
  have hD := hD0
  generalize hAe : (va_A [] s.heap.size) = A
  have hA : ∀ q : Nat, s.heap.size ≤ q → A q := fun q h => by rw [← hAe]; exact Or.inr h
  have hS : va_S A s.heap s.heap [] := va_S.rf
  have hP : va_P (dC, dI) vwCl (xW ad ca) s.heap := hP
  have hl := lv_entry ([.ref (ad 0), .int p1]) (n := 3) (Nat.le_of_ble_eq_true rfl)
  rw [lg_entry_eq]
  generalize (lg_sl ([.ref (ad 0), .int p1]) ++ List.replicate (3 - (lg_sl ([.ref (ad 0), .int p1])).length) Slot.unset).toArray = ls at hl ⊢
  have hl : lv_has ls 3 [(0, .ref (ad 0)), (1, .int p1)] := hl
  refine lv_aload_n hx hb dX12_livingHandAt_0 rfl (lv_at hl 0 rfl) ?_
  refine lv_iload_n hx hb dX12_livingHandAt_1 rfl (lv_at hl 1 rfl) ?_
  refine jc_q (va_runV (As := [.int p1]) (rest := []) ⟨hx, hb, hml, hown, hts⟩ (kX12_handAt_2 l dC dI _ ad ca p1) (cwV 1 hts (jgoodV m_352 m_353 m_354 m_210 m_355) rfl rfl rfl (by decide +kernel) ⟨Nat.le_of_ble_eq_true rfl, Nat.le_of_ble_eq_true rfl⟩) ⟨jw_blind, va_recv hK hP (ci := 12) (q0 := 0) rfl rfl, fun U hU hW => ⟨rfl, jw_of hU hW hP hK hD⟩⟩ rfl rfl hl.1 rfl (lv_room (Nat.le_of_ble_eq_true rfl)) dX12_livingHandAt_2 ⟨Nat.le_of_ble_eq_true rfl, Nat.le_of_ble_eq_true rfl⟩) hP hS hA (fun r_1 H locs hw_1 hP hS => ?_)
  have hw_1 : none = r_1 := Eq.symm hw_1
  subst hw_1
  refine jt_q Value.null rfl ?_
  refine lv_astore_nN (lv' := [(2, .null), (0, .ref (ad 0)), (1, .int p1)]) hx hb dX12_livingHandAt_5 rfl hl (by decide) rfl (fun ls hl => ?_)
  refine lv_aload_nN hx hb dX12_livingHandAt_6 rfl (lv_at hl 0 rfl) ?_
  refine lv_ifnullN (tgt := 21) hx hb dX12_livingHandAt_7 (by decide) ?_
  refine lv_null hx hb dX12_livingHandAt_21 ?_
  exact W.aret (v := .null) hx hb hr (Or.inl ⟨_, rfl⟩) (Or.inl rfl) (fun t ht hW => ⟨⟨none, (), rfl, rfl, trivial⟩, hS.F ht⟩) hS.2.2 dX12_livingHandAt_22
set_option maxHeartbeats 500000 in
set_option maxRecDepth 100000 in
theorem tX12_die (l : Launch) (dC : Nat → ClassId) (dI : Nat → Nat → Nat) (sz : Nat) (ad : Nat → Nat) (ca : Nat → ClassId) (p1 : Int32) : Met l yX12_die (jk yX12_die cX12_die 3 (some .int)) ({ frames := 2, cells := 0, slots := 0, locals := 43 }) (va_Pc [.ref (ad 0), .int p1] (jw_P (dC, dI) (xW ad ca) (xT ca) sz)) (va_Qi (fun (r : Int32) (_ : Unit) => (r = (-1))) (fun _ _ => True) (va_A [] sz)) 0 0 (va_A [] sz) := by
  refine Met.ofW (cc := cX12_die) (maxL := 3) (ret := (some .int)) (by decide) rfl ?_
  intro p e s m args below meth c s₁ B hml hv
  obtain ⟨rfl, hsz, hP, hK, hD0⟩ := hv
  have hx := B.exec
  have hb := B.bytes
  have hr := B.returns
  have hts := atoms_spec (ws := (jk yX12_die cX12_die 3 (some .int))) B.pre
  have hown : s.vm.findClass RX12 = some m.cls := findClass_of_methodNamed B.named
  have hlocks := B.notSynchronized
  subst hsz
  have hD := hD0
  generalize hAe : (va_A [] s.heap.size) = A
  have hA : ∀ q : Nat, s.heap.size ≤ q → A q := fun q h => by rw [← hAe]; exact Or.inr h
  have hS : va_S A s.heap s.heap [] := va_S.rf
  have hP : va_P (dC, dI) vwCl (xW ad ca) s.heap := hP
  have hl := lv_entry ([.ref (ad 0), .int p1]) (n := 3) (Nat.le_of_ble_eq_true rfl)
  rw [lg_entry_eq]
  generalize (lg_sl ([.ref (ad 0), .int p1]) ++ List.replicate (3 - (lg_sl ([.ref (ad 0), .int p1])).length) Slot.unset).toArray = ls at hl ⊢
  have hl : lv_has ls 3 [(0, .ref (ad 0)), (1, .int p1)] := hl
  refine lv_aload_n hx hb dX12_die_0 rfl (lv_at hl 0 rfl) ?_
  refine lv_iload_n hx hb dX12_die_1 rfl (lv_at hl 1 rfl) ?_
  refine jc_q (va_runV (As := [.int p1]) (rest := []) ⟨hx, hb, hml, hown, hts⟩ (kX12_livingHandAt_2 l dC dI _ ad ca p1) (cwV 1 hts (jgoodV m_356 m_357 m_358 m_210 m_359) rfl rfl rfl (by decide +kernel) ⟨Nat.le_of_ble_eq_true rfl, Nat.le_of_ble_eq_true rfl⟩) ⟨jw_blind, va_recv hK hP (ci := 12) (q0 := 0) rfl rfl, fun U hU hW => ⟨rfl, jw_of hU hW hP hK hD⟩⟩ rfl rfl hl.1 rfl (lv_room (Nat.le_of_ble_eq_true rfl)) dX12_die_2 ⟨Nat.le_of_ble_eq_true rfl, Nat.le_of_ble_eq_true rfl⟩) hP hS hA (fun r_1 H locs hw_1 hP hS => ?_)
  have hw_1 : none = r_1 := Eq.symm hw_1
  subst hw_1
  refine jt_q Value.null rfl ?_
  refine lv_astore_nN (lv' := [(2, .null), (0, .ref (ad 0)), (1, .int p1)]) hx hb dX12_die_5 rfl hl (by decide) rfl (fun ls hl => ?_)
  refine lv_aload_nN hx hb dX12_die_6 rfl (lv_at hl 0 rfl) ?_
  refine lv_ifnonnullN hx hb dX12_die_7 ?_
  refine lv_iconst (v := (-1)) hx hb dX12_die_10 (by decide) ?_
  exact W.iret (v := (-1)) hx hb hr (fun t ht hW => ⟨⟨(-1), (), rfl, rfl, trivial⟩, hS.F ht⟩) hS.2.2 dX12_die_11
set_option maxHeartbeats 500000 in
set_option maxRecDepth 100000 in
theorem tX12_takers (l : Launch) (dC : Nat → ClassId) (dI : Nat → Nat → Nat) (sz : Nat) (ad : Nat → Nat) (ca : Nat → ClassId) (p1 : Int32) : Met l yX12_takers (jk yX12_takers cX12_takers 5 (some .int)) ({ frames := 1, cells := 0, slots := 0, locals := 21 }) (va_Pc [.ref (ad 0), .int p1] (jw_P (dC, dI) (xW ad ca) (xT ca) sz)) (va_Qi (fun (r : Int32) (_ : Unit) => (r = (-1))) (fun _ _ => True) (va_A [] sz)) 0 0 (va_A [] sz) := by
  refine Met.ofW (cc := cX12_takers) (maxL := 5) (ret := (some .int)) (by decide) rfl ?_
  intro p e s m args below meth c s₁ B hml hv
  obtain ⟨rfl, hsz, hP, hK, hD0⟩ := hv
  have hx := B.exec
  have hb := B.bytes
  have hr := B.returns
  have hts := atoms_spec (ws := (jk yX12_takers cX12_takers 5 (some .int))) B.pre
  have hown : s.vm.findClass RX12 = some m.cls := findClass_of_methodNamed B.named
  have hlocks := B.notSynchronized
  subst hsz
  have hD := hD0
  generalize hAe : (va_A [] s.heap.size) = A
  have hA : ∀ q : Nat, s.heap.size ≤ q → A q := fun q h => by rw [← hAe]; exact Or.inr h
  have hS : va_S A s.heap s.heap [] := va_S.rf
  have hP : va_P (dC, dI) vwCl (xW ad ca) s.heap := hP
  have hl := lv_entry ([.ref (ad 0), .int p1]) (n := 5) (Nat.le_of_ble_eq_true rfl)
  rw [lg_entry_eq]
  generalize (lg_sl ([.ref (ad 0), .int p1]) ++ List.replicate (5 - (lg_sl ([.ref (ad 0), .int p1])).length) Slot.unset).toArray = ls at hl ⊢
  have hl : lv_has ls 5 [(0, .ref (ad 0)), (1, .int p1)] := hl
  refine lv_aload_n hx hb dX12_takers_0 rfl (lv_at hl 0 rfl) ?_
  refine lv_iload_n hx hb dX12_takers_1 rfl (lv_at hl 1 rfl) ?_
  refine jc_q (va_runV (As := [.int p1]) (rest := []) ⟨hx, hb, hml, hown, hts⟩ (kX12_entryAt_2 l dC dI _ ad ca p1) (cwV 1 hts (jgoodV m_316 m_317 m_318 m_210 m_319) rfl rfl rfl (by decide +kernel) ⟨Nat.le_of_ble_eq_true rfl, Nat.le_of_ble_eq_true rfl⟩) ⟨jw_blind, va_recv hK hP (ci := 12) (q0 := 0) rfl rfl, fun U hU hW => ⟨rfl, jw_of hU hW hP hK hD⟩⟩ rfl rfl hl.1 rfl (lv_room (Nat.le_of_ble_eq_true rfl)) dX12_takers_2 ⟨Nat.le_of_ble_eq_true rfl, Nat.le_of_ble_eq_true rfl⟩) hP hS hA (fun r_1 H locs hw_1 hP hS => ?_)
  have hw_1 : none = r_1 := Eq.symm hw_1
  subst hw_1
  refine jt_q Value.null rfl ?_
  refine lv_astore_nN (lv' := [(2, .null), (0, .ref (ad 0)), (1, .int p1)]) hx hb dX12_takers_5 rfl hl (by decide) rfl (fun ls hl => ?_)
  refine lv_aload_nN hx hb dX12_takers_6 rfl (lv_at hl 0 rfl) ?_
  refine lv_ifnullN (tgt := 18) hx hb dX12_takers_7 (by decide) ?_
  refine lv_iconst (v := (-1)) hx hb dX12_takers_18 (by decide) ?_
  exact W.iret (v := (-1)) hx hb hr (fun t ht hW => ⟨⟨(-1), (), rfl, rfl, trivial⟩, hS.F ht⟩) hS.2.2 dX12_takers_19
set_option maxHeartbeats 500000 in
set_option maxRecDepth 100000 in
theorem kX5_addFact_3 (l : Launch) (dC : Nat → ClassId) (dI : Nat → Nat → Nat) (sz : Nat) (ad : Nat → Nat) (ca : Nat → ClassId) (p1 : Int32) (p2 : Int32) (p3 : Int32) : Met l yX5_addFact (jk yX5_addFact cX5_addFact 5 (some .boolean)) ({ frames := 0, cells := 0, slots := 0, locals := 0 }) (va_Pc [.ref (ad 42), .int p1, .int p2, .int p3, .int 0] (jw_P (dC, dI) (xW ad ca) (xT ca) sz)) (va_Qi (fun (r : Int32) (u : Nat × (Nat → Nat) × (Nat → ClassId)) => (u.1 = 0 ∧ p1 < 0 ∧ r = 0) ∨ (u.1 = 0 ∧ ¬ (p1 < 0) ∧ 40 ≤ p1 ∧ r = 0) ∨ (u.1 = 1 ∧ ¬ (p1 < 0) ∧ ¬ (40 ≤ p1) ∧ r = 1)) (fun u t => va_P (dC, dI) vwCl ((fun (u : Nat × (Nat → Nat) × (Nat → ClassId)) => match u.1 with | 0 => xW ad ca | _ => (jS (jS (jS (jS (jS (jS (xW ad ca) 42 (ad 42, .inr (5, [.ref (ad 43), .ref (ad 44), .ref (ad 45), .ref (ad 46), .ref (ad 47), .int 1, .ref (ad 48), .ref (ad 49), .ref (ad 50), .ref (ad 51), .ref (ad 52), .int 0]))) 43 (ad 43, .inl ((ca 43), 40, .inl (upd (jfill (fun _ => 0) 40 (-1)) (Int32.toNatClampNeg p1) 0)))) 44 (ad 44, .inl ((ca 44), 600, .inl (upd (fun _ => 0) 0 p2)))) 45 (ad 45, .inl ((ca 45), 600, .inl (upd (fun _ => 0) 0 p3)))) 46 (ad 46, .inl ((ca 46), 600, .inl (upd (fun _ => 0) 0 0)))) 47 (ad 47, .inl ((ca 47), 600, .inl (upd (fun _ => 0) 0 (-1)))))) u) t.heap ∧ va_K (dC, dI) vwCl ((fun (u : Nat × (Nat → Nat) × (Nat → ClassId)) => match u.1 with | 0 => xT ca | _ => xT ca) u) t ∧ va_D (va_A (xW ad ca) sz) ((fun (u : Nat × (Nat → Nat) × (Nat → ClassId)) => match u.1 with | 0 => xW ad ca | _ => (jS (jS (jS (jS (jS (jS (xW ad ca) 42 (ad 42, .inr (5, [.ref (ad 43), .ref (ad 44), .ref (ad 45), .ref (ad 46), .ref (ad 47), .int 1, .ref (ad 48), .ref (ad 49), .ref (ad 50), .ref (ad 51), .ref (ad 52), .int 0]))) 43 (ad 43, .inl ((ca 43), 40, .inl (upd (jfill (fun _ => 0) 40 (-1)) (Int32.toNatClampNeg p1) 0)))) 44 (ad 44, .inl ((ca 44), 600, .inl (upd (fun _ => 0) 0 p2)))) 45 (ad 45, .inl ((ca 45), 600, .inl (upd (fun _ => 0) 0 p3)))) 46 (ad 46, .inl ((ca 46), 600, .inl (upd (fun _ => 0) 0 0)))) 47 (ad 47, .inl ((ca 47), 600, .inl (upd (fun _ => 0) 0 (-1)))))) u)) (va_A (xW ad ca) sz)) 0 0 (va_A (xW ad ca) sz) := by
  refine Met.ofW (cc := cX5_addFact) (maxL := 5) (ret := (some .boolean)) (by decide) rfl ?_
  intro p e s m args below meth c s₁ B hml hv
  obtain ⟨rfl, hsz, hP, hK, hD0⟩ := hv
  have hx := B.exec
  have hb := B.bytes
  have hr := B.returns
  have hts := atoms_spec (ws := (jk yX5_addFact cX5_addFact 5 (some .boolean))) B.pre
  have hown : s.vm.findClass RX5 = some m.cls := findClass_of_methodNamed B.named
  have hlocks := B.notSynchronized
  subst hsz
  have hD := hD0.self (sz := s.heap.size)
  generalize hAe : (va_A (xW ad ca) s.heap.size) = A at hD ⊢
  have hA : ∀ q : Nat, s.heap.size ≤ q → A q := fun q h => by rw [← hAe]; exact Or.inr h
  have hS : va_S A s.heap s.heap [] := va_S.rf
  have hP : va_P (dC, dI) vwCl (xW ad ca) s.heap := hP
  have hl := lv_entry ([.ref (ad 42), .int p1, .int p2, .int p3, .int 0]) (n := 5) (Nat.le_of_ble_eq_true rfl)
  rw [lg_entry_eq]
  generalize (lg_sl ([.ref (ad 42), .int p1, .int p2, .int p3, .int 0]) ++ List.replicate (5 - (lg_sl ([.ref (ad 42), .int p1, .int p2, .int p3, .int 0])).length) Slot.unset).toArray = ls at hl ⊢
  have hl : lv_has ls 5 [(0, .ref (ad 42)), (1, .int p1), (2, .int p2), (3, .int p3), (4, .int 0)] := hl
  refine lv_iload_n hx hb dX5_addFact_0 rfl (lv_at hl 1 rfl) ?_
  refine lv_if_lt (tgt := 27) hx hb dX5_addFact_1 (by decide) (fun c_1 => ?_) (fun c_1 => ?_)
  · refine lv_iconst (v := 0) hx hb dX5_addFact_27 (by decide) ?_
    exact W.zret (v := 0) (ty := .boolean) hx hb hr rfl (fun t ht hW => ⟨⟨0, (0, fun k => [].getD k 0, fun k => [].getD k (dC 0)), rfl, (Or.inl ⟨rfl, c_1, rfl⟩), by rw [ht]; exact hP, va_K.moved hW.alike hK, hD⟩, hS.F ht⟩) hS.2.2 dX5_addFact_28
  · refine lv_iload_n hx hb dX5_addFact_4 rfl (lv_at hl 1 rfl) ?_
    refine lv_bipush (v := 40) hx hb dX5_addFact_5 (by decide) ?_
    refine lv_icmp_ge (tgt := 27) hx hb dX5_addFact_7 (by decide) (fun c_2 => ?_) (fun c_2 => ?_)
    · refine lv_iconst (v := 0) hx hb dX5_addFact_27 (by decide) ?_
      exact W.zret (v := 0) (ty := .boolean) hx hb hr rfl (fun t ht hW => ⟨⟨0, (0, fun k => [].getD k 0, fun k => [].getD k (dC 0)), rfl, (Or.inr (Or.inl ⟨rfl, c_1, c_2, rfl⟩)), by rw [ht]; exact hP, va_K.moved hW.alike hK, hD⟩, hS.F ht⟩) hS.2.2 dX5_addFact_28
    · refine lv_aload_n hx hb dX5_addFact_10 rfl (lv_at hl 0 rfl) ?_
      refine va_get (D := (dC, dI)) (ci := 5) (v := .int 0) (C := RX5) (T := TX5) (N := 12) hx hb hts (jh hin_RX5) hown hK hP 42 rfl rfl 5 (by decide) (hts (.fieldLink RX5 49 "BookOfAll$News" "tells" "I") (jm m_361)) (fun _ h9 => h9) rfl dX5_addFact_11 ?_
      refine lv_if_lt (tgt := 27) hx hb dX5_addFact_14 (by decide) (fun z => absurd z (by decide)) (fun _ => ?_)
      refine lv_aload_n hx hb dX5_addFact_17 rfl (lv_at hl 0 rfl) ?_
      refine va_get (D := (dC, dI)) (ci := 5) (v := .int 0) (C := RX5) (T := TX5) (N := 12) hx hb hts (jh hin_RX5) hown hK hP 42 rfl rfl 5 (by decide) (hts (.fieldLink RX5 49 "BookOfAll$News" "tells" "I") (jm m_361)) (fun _ h9 => h9) rfl dX5_addFact_18 ?_
      refine lv_sipush (v := 600) hx hb dX5_addFact_21 (by decide) ?_
      refine lv_icmp_lt (tgt := 29) hx hb dX5_addFact_24 (by decide) (fun _ => ?_) (fun z => absurd (by decide) z)
      refine lv_aload_n hx hb dX5_addFact_29 rfl (lv_at hl 0 rfl) ?_
      refine va_get (D := (dC, dI)) (ci := 5) (v := .ref (ad 44)) (C := RX5) (T := TX5) (N := 12) hx hb hts (jh hin_RX5) hown hK hP 42 rfl rfl 1 (by decide) (hts (.fieldLink RX5 15 "BookOfAll$News" "value" "[I") (jm m_362)) (fun _ h9 => h9) rfl dX5_addFact_30 ?_
      refine lv_aload_n hx hb dX5_addFact_33 rfl (lv_at hl 0 rfl) ?_
      refine va_get (D := (dC, dI)) (ci := 5) (v := .int 0) (C := RX5) (T := TX5) (N := 12) hx hb hts (jh hin_RX5) hown hK hP 42 rfl rfl 5 (by decide) (hts (.fieldLink RX5 49 "BookOfAll$News" "tells" "I") (jm m_361)) (fun _ h9 => h9) rfl dX5_addFact_34 ?_
      refine lv_iload_n hx hb dX5_addFact_37 rfl (lv_at hl 2 rfl) ?_
      refine va_iast hx hb hK hP hD hS 44 33 rfl rfl (vp_in_nI (n := 0) (by decide) (by decide)) dX5_addFact_38 (fun H locs hP hD hS => ?_)
      refine lv_aload_n hx hb dX5_addFact_39 rfl (lv_at hl 0 rfl) ?_
      refine va_get (D := (dC, dI)) (ci := 5) (v := .ref (ad 45)) (C := RX5) (T := TX5) (N := 12) hx hb hts (jh hin_RX5) hown hK hP 42 rfl rfl 2 (by decide) (hts (.fieldLink RX5 18 "BookOfAll$News" "source" "[I") (jm m_363)) (fun _ h9 => h9) rfl dX5_addFact_40 ?_
      refine lv_aload_n hx hb dX5_addFact_43 rfl (lv_at hl 0 rfl) ?_
      refine va_get (D := (dC, dI)) (ci := 5) (v := .int 0) (C := RX5) (T := TX5) (N := 12) hx hb hts (jh hin_RX5) hown hK hP 42 rfl rfl 5 (by decide) (hts (.fieldLink RX5 49 "BookOfAll$News" "tells" "I") (jm m_361)) (fun _ h9 => h9) rfl dX5_addFact_44 ?_
      refine lv_iload_n hx hb dX5_addFact_47 rfl (lv_at hl 3 rfl) ?_
      refine va_iast hx hb hK hP hD hS 45 34 rfl rfl (vp_in_nI (n := 0) (by decide) (by decide)) dX5_addFact_48 (fun H locs hP hD hS => ?_)
      refine lv_aload_n hx hb dX5_addFact_49 rfl (lv_at hl 0 rfl) ?_
      refine va_get (D := (dC, dI)) (ci := 5) (v := .ref (ad 46)) (C := RX5) (T := TX5) (N := 12) hx hb hts (jh hin_RX5) hown hK hP 42 rfl rfl 3 (by decide) (hts (.fieldLink RX5 21 "BookOfAll$News" "day" "[I") (jm m_364)) (fun _ h9 => h9) rfl dX5_addFact_50 ?_
      refine lv_aload_n hx hb dX5_addFact_53 rfl (lv_at hl 0 rfl) ?_
      refine va_get (D := (dC, dI)) (ci := 5) (v := .int 0) (C := RX5) (T := TX5) (N := 12) hx hb hts (jh hin_RX5) hown hK hP 42 rfl rfl 5 (by decide) (hts (.fieldLink RX5 49 "BookOfAll$News" "tells" "I") (jm m_361)) (fun _ h9 => h9) rfl dX5_addFact_54 ?_
      refine lv_iload hx hb dX5_addFact_57 (lv_at hl 4 rfl) ?_
      refine va_iast hx hb hK hP hD hS 46 35 rfl rfl (vp_in_nI (n := 0) (by decide) (by decide)) dX5_addFact_59 (fun H locs hP hD hS => ?_)
      refine lv_aload_n hx hb dX5_addFact_60 rfl (lv_at hl 0 rfl) ?_
      refine va_get (D := (dC, dI)) (ci := 5) (v := .ref (ad 47)) (C := RX5) (T := TX5) (N := 12) hx hb hts (jh hin_RX5) hown hK hP 42 rfl rfl 4 (by decide) (hts (.fieldLink RX5 24 "BookOfAll$News" "earlier" "[I") (jm m_365)) (fun _ h9 => h9) rfl dX5_addFact_61 ?_
      refine lv_aload_n hx hb dX5_addFact_64 rfl (lv_at hl 0 rfl) ?_
      refine va_get (D := (dC, dI)) (ci := 5) (v := .int 0) (C := RX5) (T := TX5) (N := 12) hx hb hts (jh hin_RX5) hown hK hP 42 rfl rfl 5 (by decide) (hts (.fieldLink RX5 49 "BookOfAll$News" "tells" "I") (jm m_361)) (fun _ h9 => h9) rfl dX5_addFact_65 ?_
      refine lv_aload_n hx hb dX5_addFact_68 rfl (lv_at hl 0 rfl) ?_
      refine va_get (D := (dC, dI)) (ci := 5) (v := .ref (ad 43)) (C := RX5) (T := TX5) (N := 12) hx hb hts (jh hin_RX5) hown hK hP 42 rfl rfl 0 (by decide) (hts (.fieldLink RX5 11 "BookOfAll$News" "latest" "[I") (jm m_366)) (fun _ h9 => h9) rfl dX5_addFact_69 ?_
      refine lv_iload_n hx hb dX5_addFact_72 rfl (lv_at hl 1 rfl) ?_
      refine va_iald hx hb hK hP 43 32 rfl rfl (jb_in (jl_nlt c_1) (jl_nge (d := 39) c_2 (by decide)) (by decide) (by decide)) dX5_addFact_73 ?_
      refine jt_i (-1) (jfill_at (jl_nlt c_1) (jl_nge (d := 39) c_2 (by decide)) (by decide) (by decide)) ?_
      refine va_iast hx hb hK hP hD hS 47 36 rfl rfl (vp_in_nI (n := 0) (by decide) (by decide)) dX5_addFact_74 (fun H locs hP hD hS => ?_)
      refine lv_aload_n hx hb dX5_addFact_75 rfl (lv_at hl 0 rfl) ?_
      refine va_get (D := (dC, dI)) (ci := 5) (v := .ref (ad 43)) (C := RX5) (T := TX5) (N := 12) hx hb hts (jh hin_RX5) hown hK hP 42 rfl rfl 0 (by decide) (hts (.fieldLink RX5 11 "BookOfAll$News" "latest" "[I") (jm m_366)) (fun _ h9 => h9) rfl dX5_addFact_76 ?_
      refine lv_iload_n hx hb dX5_addFact_79 rfl (lv_at hl 1 rfl) ?_
      refine lv_aload_n hx hb dX5_addFact_80 rfl (lv_at hl 0 rfl) ?_
      refine va_get (D := (dC, dI)) (ci := 5) (v := .int 0) (C := RX5) (T := TX5) (N := 12) hx hb hts (jh hin_RX5) hown hK hP 42 rfl rfl 5 (by decide) (hts (.fieldLink RX5 49 "BookOfAll$News" "tells" "I") (jm m_361)) (fun _ h9 => h9) rfl dX5_addFact_81 ?_
      refine va_iast hx hb hK hP hD hS 43 32 rfl rfl (jb_in (jl_nlt c_1) (jl_nge (d := 39) c_2 (by decide)) (by decide) (by decide)) dX5_addFact_84 (fun H locs hP hD hS => ?_)
      refine lv_aload_n hx hb dX5_addFact_85 rfl (lv_at hl 0 rfl) ?_
      refine lv_dup hx hb dX5_addFact_86 rfl ?_
      refine va_get (D := (dC, dI)) (ci := 5) (v := .int 0) (C := RX5) (T := TX5) (N := 12) hx hb hts (jh hin_RX5) hown hK hP 42 rfl rfl 5 (by decide) (hts (.fieldLink RX5 49 "BookOfAll$News" "tells" "I") (jm m_361)) (fun _ h9 => h9) rfl dX5_addFact_87 ?_
      refine lv_iconst (v := 1) hx hb dX5_addFact_90 (by decide) ?_
      refine lv_iadd hx hb dX5_addFact_91 ?_
      refine jt_i 1 (by decide) ?_
      refine va_put (D := (dC, dI)) (ci := 5) (v := .int 1) (ty := .int) (C := RX5) (T := TX5) (N := 12) hx hb hts (jh hin_RX5) tyX5 tyX5_ok nmX5 hown hK hP hD hS 42 rfl rfl 5 (by decide) (hts (.fieldLink RX5 49 "BookOfAll$News" "tells" "I") (jm m_361)) (fun _ h9 => h9) rfl (by decide +kernel) rfl rfl (Nat.le_of_ble_eq_true rfl) dX5_addFact_92 (fun H locs hP hD hS => ?_)
      refine lv_iconst (v := 1) hx hb dX5_addFact_95 (by decide) ?_
      exact W.zret (v := 1) (ty := .boolean) hx hb hr rfl (fun t ht hW => ⟨⟨1, (1, fun k => [].getD k 0, fun k => [].getD k (dC 0)), rfl, (Or.inr (Or.inr ⟨rfl, c_1, c_2, rfl⟩)), by rw [ht]; exact hP, va_K.moved hW.alike hK, hD⟩, hS.F ht⟩) hS.2.2 dX5_addFact_96
theorem s_tX12_tell_0 {p1 p2 p3 : Int32} (c_1 : p1 < 0) : 0 = sp_tell p1 p2 p3 := by
  unfold sp_tell
  have g0 : p1.toInt < 0 := ji_lt.mp c_1
  split <;> first | rfl | (exfalso; omega)
theorem s_tX12_tell_1 {p1 p2 p3 : Int32} (c_1 : ¬ (p1 < 0)) (c_2 : 40 ≤ p1) : 0 = sp_tell p1 p2 p3 := by
  unfold sp_tell
  have g0 : ¬ (p1.toInt < 0) := fun z => c_1 (ji_lt.mpr z)
  have g1 : 40 ≤ p1.toInt := ji_le.mp c_2
  split <;> first | rfl | (exfalso; omega)
theorem s_tX12_tell_2 {p1 p2 p3 : Int32} (c_1 : ¬ (p1 < 0)) (c_2 : ¬ (40 ≤ p1)) (c_3 : p2 < 0) : 0 = sp_tell p1 p2 p3 := by
  unfold sp_tell
  have g0 : ¬ (p1.toInt < 0) := fun z => c_1 (ji_lt.mpr z)
  have g1 : ¬ (40 ≤ p1.toInt) := fun z => c_2 (ji_le.mpr z)
  have g2 : p2.toInt < 0 := ji_lt.mp c_3
  split <;> first | rfl | (exfalso; omega)
theorem s_tX12_tell_3 {p1 p2 p3 : Int32} (c_1 : ¬ (p1 < 0)) (c_2 : ¬ (40 ≤ p1)) (c_3 : ¬ (p2 < 0)) (c_4 : 999 < p2) : 0 = sp_tell p1 p2 p3 := by
  unfold sp_tell
  have g0 : ¬ (p1.toInt < 0) := fun z => c_1 (ji_lt.mpr z)
  have g1 : ¬ (40 ≤ p1.toInt) := fun z => c_2 (ji_le.mpr z)
  have g2 : ¬ (p2.toInt < 0) := fun z => c_3 (ji_lt.mpr z)
  have g3 : 999 < p2.toInt := ji_lt.mp c_4
  split <;> first | rfl | (exfalso; omega)
theorem s_tX12_tell_4 {p1 p2 p3 : Int32} (c_1 : ¬ (p1 < 0)) (c_2 : ¬ (40 ≤ p1)) (c_3 : ¬ (p2 < 0)) (c_4 : ¬ (999 < p2)) (c_5 : p3 < 0) : 0 = sp_tell p1 p2 p3 := by
  unfold sp_tell
  have g0 : ¬ (p1.toInt < 0) := fun z => c_1 (ji_lt.mpr z)
  have g1 : ¬ (40 ≤ p1.toInt) := fun z => c_2 (ji_le.mpr z)
  have g2 : ¬ (p2.toInt < 0) := fun z => c_3 (ji_lt.mpr z)
  have g3 : ¬ (999 < p2.toInt) := fun z => c_4 (ji_lt.mpr z)
  have g4 : p3.toInt < 0 := ji_lt.mp c_5
  split <;> first | rfl | (exfalso; omega)
theorem s_tX12_tell_5 {p1 p2 p3 : Int32} (c_1 : ¬ (p1 < 0)) (c_2 : ¬ (40 ≤ p1)) (c_3 : ¬ (p2 < 0)) (c_4 : ¬ (999 < p2)) (c_5 : ¬ (p3 < 0)) (c_10 : ¬ (p1 < 0)) (c_11 : ¬ (40 ≤ p1)) : 1 = sp_tell p1 p2 p3 := by
  unfold sp_tell
  have g0 : ¬ (p1.toInt < 0) := fun z => c_1 (ji_lt.mpr z)
  have g1 : ¬ (40 ≤ p1.toInt) := fun z => c_2 (ji_le.mpr z)
  have g2 : ¬ (p2.toInt < 0) := fun z => c_3 (ji_lt.mpr z)
  have g3 : ¬ (999 < p2.toInt) := fun z => c_4 (ji_lt.mpr z)
  have g4 : ¬ (p3.toInt < 0) := fun z => c_5 (ji_lt.mpr z)
  have g5 : ¬ (p1.toInt < 0) := fun z => c_10 (ji_lt.mpr z)
  have g6 : ¬ (40 ≤ p1.toInt) := fun z => c_11 (ji_le.mpr z)
  split <;> first | rfl | (exfalso; omega)
set_option maxHeartbeats 500000 in
set_option maxRecDepth 100000 in
theorem tX12_tell (l : Launch) (dC : Nat → ClassId) (dI : Nat → Nat → Nat) (sz : Nat) (ad : Nat → Nat) (ca : Nat → ClassId) (p1 : Int32) (p2 : Int32) (p3 : Int32) : Met l yX12_tell (jk yX12_tell cX12_tell 5 (some .boolean)) ({ frames := 1, cells := 0, slots := 0, locals := 24 }) (va_Pc [.ref (ad 0), .int p1, .int p2, .int p3] (jw_P (dC, dI) (xW ad ca) (xT ca) sz)) (va_Qi (fun (r : Int32) (_ : Unit) => r = sp_tell p1 p2 p3) (fun _ _ => True) (va_A (xW ad ca) sz)) 0 0 (va_A (xW ad ca) sz) := by
  refine Met.ofW (cc := cX12_tell) (maxL := 5) (ret := (some .boolean)) (by decide) rfl ?_
  intro p e s m args below meth c s₁ B hml hv
  obtain ⟨rfl, hsz, hP, hK, hD0⟩ := hv
  have hx := B.exec
  have hb := B.bytes
  have hr := B.returns
  have hts := atoms_spec (ws := (jk yX12_tell cX12_tell 5 (some .boolean))) B.pre
  have hown : s.vm.findClass RX12 = some m.cls := findClass_of_methodNamed B.named
  have hlocks := B.notSynchronized
  subst hsz
  have hD := hD0.self (sz := s.heap.size)
  generalize hAe : (va_A (xW ad ca) s.heap.size) = A at hD ⊢
  have hA : ∀ q : Nat, s.heap.size ≤ q → A q := fun q h => by rw [← hAe]; exact Or.inr h
  have hS : va_S A s.heap s.heap [] := va_S.rf
  have hP : va_P (dC, dI) vwCl (xW ad ca) s.heap := hP
  have hl := lv_entry ([.ref (ad 0), .int p1, .int p2, .int p3]) (n := 5) (Nat.le_of_ble_eq_true rfl)
  rw [lg_entry_eq]
  generalize (lg_sl ([.ref (ad 0), .int p1, .int p2, .int p3]) ++ List.replicate (5 - (lg_sl ([.ref (ad 0), .int p1, .int p2, .int p3])).length) Slot.unset).toArray = ls at hl ⊢
  have hl : lv_has ls 5 [(0, .ref (ad 0)), (1, .int p1), (2, .int p2), (3, .int p3)] := hl
  refine lv_iload_n hx hb dX12_tell_0 rfl (lv_at hl 1 rfl) ?_
  refine lv_if_lt (tgt := 29) hx hb dX12_tell_1 (by decide) (fun c_1 => ?_) (fun c_1 => ?_)
  · refine lv_iconst (v := 0) hx hb dX12_tell_29 (by decide) ?_
    refine lv_istore (lv' := [(4, .int 0), (0, .ref (ad 0)), (1, .int p1), (2, .int p2), (3, .int p3)]) hx hb dX12_tell_30 hl (by decide) rfl (fun ls hl => ?_)
    refine lv_iload hx hb dX12_tell_32 (lv_at hl 0 rfl) ?_
    refine lv_if_eq (tgt := 58) hx hb dX12_tell_34 (by decide) (fun _ => ?_) (fun z => absurd (by decide) z)
    refine lv_iconst (v := 0) hx hb dX12_tell_58 (by decide) ?_
    exact W.zret (v := 0) (ty := .boolean) hx hb hr rfl (fun t ht hW => ⟨⟨0, (), rfl, (s_tX12_tell_0 (p1 := p1) (p2 := p2) (p3 := p3) c_1), trivial⟩, hS.F ht⟩) hS.2.2 dX12_tell_59
  · refine lv_iload_n hx hb dX12_tell_4 rfl (lv_at hl 1 rfl) ?_
    refine lv_bipush (v := 40) hx hb dX12_tell_5 (by decide) ?_
    refine lv_icmp_ge (tgt := 29) hx hb dX12_tell_7 (by decide) (fun c_2 => ?_) (fun c_2 => ?_)
    · refine lv_iconst (v := 0) hx hb dX12_tell_29 (by decide) ?_
      refine lv_istore (lv' := [(4, .int 0), (0, .ref (ad 0)), (1, .int p1), (2, .int p2), (3, .int p3)]) hx hb dX12_tell_30 hl (by decide) rfl (fun ls hl => ?_)
      refine lv_iload hx hb dX12_tell_32 (lv_at hl 0 rfl) ?_
      refine lv_if_eq (tgt := 58) hx hb dX12_tell_34 (by decide) (fun _ => ?_) (fun z => absurd (by decide) z)
      refine lv_iconst (v := 0) hx hb dX12_tell_58 (by decide) ?_
      exact W.zret (v := 0) (ty := .boolean) hx hb hr rfl (fun t ht hW => ⟨⟨0, (), rfl, (s_tX12_tell_1 (p1 := p1) (p2 := p2) (p3 := p3) c_1 c_2), trivial⟩, hS.F ht⟩) hS.2.2 dX12_tell_59
    · refine lv_iload_n hx hb dX12_tell_10 rfl (lv_at hl 2 rfl) ?_
      refine lv_if_lt (tgt := 29) hx hb dX12_tell_11 (by decide) (fun c_3 => ?_) (fun c_3 => ?_)
      · refine lv_iconst (v := 0) hx hb dX12_tell_29 (by decide) ?_
        refine lv_istore (lv' := [(4, .int 0), (0, .ref (ad 0)), (1, .int p1), (2, .int p2), (3, .int p3)]) hx hb dX12_tell_30 hl (by decide) rfl (fun ls hl => ?_)
        refine lv_iload hx hb dX12_tell_32 (lv_at hl 0 rfl) ?_
        refine lv_if_eq (tgt := 58) hx hb dX12_tell_34 (by decide) (fun _ => ?_) (fun z => absurd (by decide) z)
        refine lv_iconst (v := 0) hx hb dX12_tell_58 (by decide) ?_
        exact W.zret (v := 0) (ty := .boolean) hx hb hr rfl (fun t ht hW => ⟨⟨0, (), rfl, (s_tX12_tell_2 (p1 := p1) (p2 := p2) (p3 := p3) c_1 c_2 c_3), trivial⟩, hS.F ht⟩) hS.2.2 dX12_tell_59
      · refine lv_iload_n hx hb dX12_tell_14 rfl (lv_at hl 2 rfl) ?_
        refine lv_sipush (v := 999) hx hb dX12_tell_15 (by decide) ?_
        refine lv_icmp_gt (tgt := 29) hx hb dX12_tell_18 (by decide) (fun c_4 => ?_) (fun c_4 => ?_)
        · refine lv_iconst (v := 0) hx hb dX12_tell_29 (by decide) ?_
          refine lv_istore (lv' := [(4, .int 0), (0, .ref (ad 0)), (1, .int p1), (2, .int p2), (3, .int p3)]) hx hb dX12_tell_30 hl (by decide) rfl (fun ls hl => ?_)
          refine lv_iload hx hb dX12_tell_32 (lv_at hl 0 rfl) ?_
          refine lv_if_eq (tgt := 58) hx hb dX12_tell_34 (by decide) (fun _ => ?_) (fun z => absurd (by decide) z)
          refine lv_iconst (v := 0) hx hb dX12_tell_58 (by decide) ?_
          exact W.zret (v := 0) (ty := .boolean) hx hb hr rfl (fun t ht hW => ⟨⟨0, (), rfl, (s_tX12_tell_3 (p1 := p1) (p2 := p2) (p3 := p3) c_1 c_2 c_3 c_4), trivial⟩, hS.F ht⟩) hS.2.2 dX12_tell_59
        · refine lv_iload_n hx hb dX12_tell_21 rfl (lv_at hl 3 rfl) ?_
          refine lv_if_lt (tgt := 29) hx hb dX12_tell_22 (by decide) (fun c_5 => ?_) (fun c_5 => ?_)
          · refine lv_iconst (v := 0) hx hb dX12_tell_29 (by decide) ?_
            refine lv_istore (lv' := [(4, .int 0), (0, .ref (ad 0)), (1, .int p1), (2, .int p2), (3, .int p3)]) hx hb dX12_tell_30 hl (by decide) rfl (fun ls hl => ?_)
            refine lv_iload hx hb dX12_tell_32 (lv_at hl 0 rfl) ?_
            refine lv_if_eq (tgt := 58) hx hb dX12_tell_34 (by decide) (fun _ => ?_) (fun z => absurd (by decide) z)
            refine lv_iconst (v := 0) hx hb dX12_tell_58 (by decide) ?_
            exact W.zret (v := 0) (ty := .boolean) hx hb hr rfl (fun t ht hW => ⟨⟨0, (), rfl, (s_tX12_tell_4 (p1 := p1) (p2 := p2) (p3 := p3) c_1 c_2 c_3 c_4 c_5), trivial⟩, hS.F ht⟩) hS.2.2 dX12_tell_59
          · refine lv_iconst (v := 1) hx hb dX12_tell_25 (by decide) ?_
            refine lv_goto (tgt := 30) hx hb dX12_tell_26 (by decide) ?_
            refine lv_istore (lv' := [(4, .int 1), (0, .ref (ad 0)), (1, .int p1), (2, .int p2), (3, .int p3)]) hx hb dX12_tell_30 hl (by decide) rfl (fun ls hl => ?_)
            refine lv_iload hx hb dX12_tell_32 (lv_at hl 0 rfl) ?_
            refine lv_if_eq (tgt := 58) hx hb dX12_tell_34 (by decide) (fun z => absurd z (by decide)) (fun _ => ?_)
            refine lv_aload_n hx hb dX12_tell_37 rfl (lv_at hl 1 rfl) ?_
            refine va_get (D := (dC, dI)) (ci := 12) (v := .ref (ad 42)) (C := RX12) (T := TX12) (N := 20) hx hb hts (jh hin_RX12) hown hK hP 0 rfl rfl 14 (by decide) (hts (.fieldLink RX12 66 "BookOfAll" "news" "LBookOfAll$News;") (jm m_360)) (fun _ h9 => h9) rfl dX12_tell_38 ?_
            refine lv_iload_n hx hb dX12_tell_41 rfl (lv_at hl 2 rfl) ?_
            refine lv_iload_n hx hb dX12_tell_42 rfl (lv_at hl 3 rfl) ?_
            refine lv_iload_n hx hb dX12_tell_43 rfl (lv_at hl 4 rfl) ?_
            refine lv_aload_n hx hb dX12_tell_44 rfl (lv_at hl 1 rfl) ?_
            refine va_get (D := (dC, dI)) (ci := 12) (v := .int 0) (C := RX12) (T := TX12) (N := 20) hx hb hts (jh hin_RX12) hown hK hP 0 rfl rfl 0 (by decide) (hts (.fieldLink RX12 133 "BookOfAll" "now" "I") (jm m_217)) (fun _ h9 => h9) rfl dX12_tell_45 ?_
            refine jcg_i (va_runV (As := [.int p1, .int p2, .int p3, .int 0]) (rest := []) ⟨hx, hb, hml, hown, hts⟩ (kX5_addFact_3 l dC dI _ ad ca p1 p2 p3) (cwV 4 hts (jgoodV m_367 m_368 m_369 m_370 m_371) rfl rfl rfl (by decide +kernel) ⟨Nat.le_of_ble_eq_true rfl, Nat.le_of_ble_eq_true rfl⟩) ⟨jw_blind, va_recv hK hP (ci := 5) (q0 := 42) rfl rfl, fun U hU hW => ⟨rfl, jw_of hU hW hP hK hD⟩⟩ rfl rfl hl.1 rfl (lv_room (Nat.le_of_ble_eq_true rfl)) dX12_tell_48 ⟨Nat.le_of_ble_eq_true rfl, Nat.le_of_ble_eq_true rfl⟩) hD hS hA (fun r_6 u_6 H locs hw_6 hP hK hD hS => ?_)
            obtain ⟨w_6, a_6, y_6⟩ := u_6
            rcases (show (w_6 = 0 ∧ p1 < 0 ∧ r_6 = 0) ∨ (w_6 = 0 ∧ ¬ (p1 < 0) ∧ 40 ≤ p1 ∧ r_6 = 0) ∨ (w_6 = 1 ∧ ¬ (p1 < 0) ∧ ¬ (40 ≤ p1) ∧ r_6 = 1) from hw_6) with ⟨rfl, c_7, e_7_0⟩ | ⟨rfl, c_8, c_9, e_9_1⟩ | ⟨rfl, c_10, c_11, e_11_2⟩
            · have e_7_0 := e_7_0.symm
              subst e_7_0
              exact (jx_no (jl_nlt c_1) (jl_lt (d := (-1)) c_7 (by decide)) (by decide)).elim
            · have e_9_1 := e_9_1.symm
              subst e_9_1
              exact (jx_no c_9 (jl_nge (d := 39) c_2 (by decide)) (by decide)).elim
            · have e_11_2 := e_11_2.symm
              subst e_11_2
              have hP : va_P (dC, dI) vwCl ((jS (jS (jS (jS (jS (jS (xW ad ca) 42 (ad 42, .inr (5, [.ref (ad 43), .ref (ad 44), .ref (ad 45), .ref (ad 46), .ref (ad 47), .int 1, .ref (ad 48), .ref (ad 49), .ref (ad 50), .ref (ad 51), .ref (ad 52), .int 0]))) 43 (ad 43, .inl ((ca 43), 40, .inl (upd (jfill (fun _ => 0) 40 (-1)) (Int32.toNatClampNeg p1) 0)))) 44 (ad 44, .inl ((ca 44), 600, .inl (upd (fun _ => 0) 0 p2)))) 45 (ad 45, .inl ((ca 45), 600, .inl (upd (fun _ => 0) 0 p3)))) 46 (ad 46, .inl ((ca 46), 600, .inl (upd (fun _ => 0) 0 0)))) 47 (ad 47, .inl ((ca 47), 600, .inl (upd (fun _ => 0) 0 (-1)))))) H := hP
              have hK : va_K (dC, dI) vwCl (xT ca) s := hK
              have hD : va_D A ((jS (jS (jS (jS (jS (jS (xW ad ca) 42 (ad 42, .inr (5, [.ref (ad 43), .ref (ad 44), .ref (ad 45), .ref (ad 46), .ref (ad 47), .int 1, .ref (ad 48), .ref (ad 49), .ref (ad 50), .ref (ad 51), .ref (ad 52), .int 0]))) 43 (ad 43, .inl ((ca 43), 40, .inl (upd (jfill (fun _ => 0) 40 (-1)) (Int32.toNatClampNeg p1) 0)))) 44 (ad 44, .inl ((ca 44), 600, .inl (upd (fun _ => 0) 0 p2)))) 45 (ad 45, .inl ((ca 45), 600, .inl (upd (fun _ => 0) 0 p3)))) 46 (ad 46, .inl ((ca 46), 600, .inl (upd (fun _ => 0) 0 0)))) 47 (ad 47, .inl ((ca 47), 600, .inl (upd (fun _ => 0) 0 (-1)))))) := hD
              refine lv_if_eq (tgt := 58) hx hb dX12_tell_51 (by decide) (fun z => absurd z (by decide)) (fun _ => ?_)
              refine lv_iconst (v := 1) hx hb dX12_tell_54 (by decide) ?_
              refine lv_goto (tgt := 59) hx hb dX12_tell_55 (by decide) ?_
              exact W.zret (v := 1) (ty := .boolean) hx hb hr rfl (fun t ht hW => ⟨⟨1, (), rfl, (s_tX12_tell_5 (p1 := p1) (p2 := p2) (p3 := p3) c_1 c_2 c_3 c_4 c_5 c_10 c_11), trivial⟩, hS.F ht⟩) hS.2.2 dX12_tell_59
set_option maxHeartbeats 500000 in
set_option maxRecDepth 100000 in
theorem kX5_tellOn_3 (l : Launch) (dC : Nat → ClassId) (dI : Nat → Nat → Nat) (sz : Nat) (ad : Nat → Nat) (ca : Nat → ClassId) (p1 : Int32) (p2 : Int32) : Met l yX5_tellOn (jk yX5_tellOn cX5_tellOn 5 (some .int)) ({ frames := 0, cells := 0, slots := 0, locals := 0 }) (va_Pc [.ref (ad 42), .int p1, .int p2] (jw_P (dC, dI) (xW ad ca) (xT ca) sz)) (va_Qi (fun (r : Int32) (_ : Unit) => (r = (-1))) (fun _ _ => True) (va_A [] sz)) 0 0 (va_A [] sz) := by
  refine Met.ofW (cc := cX5_tellOn) (maxL := 5) (ret := (some .int)) (by decide) rfl ?_
  intro p e s m args below meth c s₁ B hml hv
  obtain ⟨rfl, hsz, hP, hK, hD0⟩ := hv
  have hx := B.exec
  have hb := B.bytes
  have hr := B.returns
  have hts := atoms_spec (ws := (jk yX5_tellOn cX5_tellOn 5 (some .int))) B.pre
  have hown : s.vm.findClass RX5 = some m.cls := findClass_of_methodNamed B.named
  have hlocks := B.notSynchronized
  subst hsz
  have hD := hD0
  generalize hAe : (va_A [] s.heap.size) = A
  have hA : ∀ q : Nat, s.heap.size ≤ q → A q := fun q h => by rw [← hAe]; exact Or.inr h
  have hS : va_S A s.heap s.heap [] := va_S.rf
  have hP : va_P (dC, dI) vwCl (xW ad ca) s.heap := hP
  have hl := lv_entry ([.ref (ad 42), .int p1, .int p2]) (n := 5) (Nat.le_of_ble_eq_true rfl)
  rw [lg_entry_eq]
  generalize (lg_sl ([.ref (ad 42), .int p1, .int p2]) ++ List.replicate (5 - (lg_sl ([.ref (ad 42), .int p1, .int p2])).length) Slot.unset).toArray = ls at hl ⊢
  have hl : lv_has ls 5 [(0, .ref (ad 42)), (1, .int p1), (2, .int p2)] := hl
  refine lv_iload_n hx hb dX5_tellOn_0 rfl (lv_at hl 1 rfl) ?_
  refine lv_if_lt (tgt := 19) hx hb dX5_tellOn_1 (by decide) (fun c_1 => ?_) (fun c_1 => ?_)
  · refine lv_iconst (v := (-1)) hx hb dX5_tellOn_19 (by decide) ?_
    refine lv_istore_n (lv' := [(3, .int (-1)), (0, .ref (ad 42)), (1, .int p1), (2, .int p2)]) hx hb dX5_tellOn_20 rfl hl (by decide) rfl (fun ls hl => ?_)
    refine lv_iconst (v := 0) hx hb dX5_tellOn_21 (by decide) ?_
    refine lv_istore (lv' := [(4, .int 0), (3, .int (-1)), (0, .ref (ad 42)), (1, .int p1), (2, .int p2)]) hx hb dX5_tellOn_22 hl (by decide) rfl (fun ls hl => ?_)
    refine lv_iload hx hb dX5_tellOn_24 (lv_at hl 0 rfl) ?_
    refine lv_sipush (v := 600) hx hb dX5_tellOn_26 (by decide) ?_
    refine lv_icmp_ge (tgt := 68) hx hb dX5_tellOn_29 (by decide) (fun z => absurd z (by decide)) (fun _ => ?_)
    refine lv_iload_n hx hb dX5_tellOn_32 rfl (lv_at hl 1 rfl) ?_
    refine lv_if_lt (tgt := 68) hx hb dX5_tellOn_33 (by decide) (fun _ => ?_) (fun z => absurd (by decide) z)
    refine lv_iconst (v := (-1)) hx hb dX5_tellOn_68 (by decide) ?_
    exact W.iret (v := (-1)) hx hb hr (fun t ht hW => ⟨⟨(-1), (), rfl, rfl, trivial⟩, hS.F ht⟩) hS.2.2 dX5_tellOn_69
  · refine lv_iload_n hx hb dX5_tellOn_4 rfl (lv_at hl 1 rfl) ?_
    refine lv_bipush (v := 40) hx hb dX5_tellOn_5 (by decide) ?_
    refine lv_icmp_ge (tgt := 19) hx hb dX5_tellOn_7 (by decide) (fun c_2 => ?_) (fun c_2 => ?_)
    · refine lv_iconst (v := (-1)) hx hb dX5_tellOn_19 (by decide) ?_
      refine lv_istore_n (lv' := [(3, .int (-1)), (0, .ref (ad 42)), (1, .int p1), (2, .int p2)]) hx hb dX5_tellOn_20 rfl hl (by decide) rfl (fun ls hl => ?_)
      refine lv_iconst (v := 0) hx hb dX5_tellOn_21 (by decide) ?_
      refine lv_istore (lv' := [(4, .int 0), (3, .int (-1)), (0, .ref (ad 42)), (1, .int p1), (2, .int p2)]) hx hb dX5_tellOn_22 hl (by decide) rfl (fun ls hl => ?_)
      refine lv_iload hx hb dX5_tellOn_24 (lv_at hl 0 rfl) ?_
      refine lv_sipush (v := 600) hx hb dX5_tellOn_26 (by decide) ?_
      refine lv_icmp_ge (tgt := 68) hx hb dX5_tellOn_29 (by decide) (fun z => absurd z (by decide)) (fun _ => ?_)
      refine lv_iload_n hx hb dX5_tellOn_32 rfl (lv_at hl 1 rfl) ?_
      refine lv_if_lt (tgt := 68) hx hb dX5_tellOn_33 (by decide) (fun _ => ?_) (fun z => absurd (by decide) z)
      refine lv_iconst (v := (-1)) hx hb dX5_tellOn_68 (by decide) ?_
      exact W.iret (v := (-1)) hx hb hr (fun t ht hW => ⟨⟨(-1), (), rfl, rfl, trivial⟩, hS.F ht⟩) hS.2.2 dX5_tellOn_69
    · refine lv_aload_n hx hb dX5_tellOn_10 rfl (lv_at hl 0 rfl) ?_
      refine va_get (D := (dC, dI)) (ci := 5) (v := .ref (ad 43)) (C := RX5) (T := TX5) (N := 12) hx hb hts (jh hin_RX5) hown hK hP 42 rfl rfl 0 (by decide) (hts (.fieldLink RX5 11 "BookOfAll$News" "latest" "[I") (jm m_366)) (fun _ h9 => h9) rfl dX5_tellOn_11 ?_
      refine lv_iload_n hx hb dX5_tellOn_14 rfl (lv_at hl 1 rfl) ?_
      refine va_iald hx hb hK hP 43 32 rfl rfl (jb_in (jl_nlt c_1) (jl_nge (d := 39) c_2 (by decide)) (by decide) (by decide)) dX5_tellOn_15 ?_
      refine jt_i (-1) (jfill_at (jl_nlt c_1) (jl_nge (d := 39) c_2 (by decide)) (by decide) (by decide)) ?_
      refine lv_goto (tgt := 20) hx hb dX5_tellOn_16 (by decide) ?_
      refine lv_istore_n (lv' := [(3, .int (-1)), (0, .ref (ad 42)), (1, .int p1), (2, .int p2)]) hx hb dX5_tellOn_20 rfl hl (by decide) rfl (fun ls hl => ?_)
      refine lv_iconst (v := 0) hx hb dX5_tellOn_21 (by decide) ?_
      refine lv_istore (lv' := [(4, .int 0), (3, .int (-1)), (0, .ref (ad 42)), (1, .int p1), (2, .int p2)]) hx hb dX5_tellOn_22 hl (by decide) rfl (fun ls hl => ?_)
      refine lv_iload hx hb dX5_tellOn_24 (lv_at hl 0 rfl) ?_
      refine lv_sipush (v := 600) hx hb dX5_tellOn_26 (by decide) ?_
      refine lv_icmp_ge (tgt := 68) hx hb dX5_tellOn_29 (by decide) (fun z => absurd z (by decide)) (fun _ => ?_)
      refine lv_iload_n hx hb dX5_tellOn_32 rfl (lv_at hl 1 rfl) ?_
      refine lv_if_lt (tgt := 68) hx hb dX5_tellOn_33 (by decide) (fun _ => ?_) (fun z => absurd (by decide) z)
      refine lv_iconst (v := (-1)) hx hb dX5_tellOn_68 (by decide) ?_
      exact W.iret (v := (-1)) hx hb hr (fun t ht hW => ⟨⟨(-1), (), rfl, rfl, trivial⟩, hS.F ht⟩) hS.2.2 dX5_tellOn_69
