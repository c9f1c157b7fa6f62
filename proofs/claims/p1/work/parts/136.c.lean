set_option maxHeartbeats 500000 in
set_option maxRecDepth 100000 in
theorem kX12_handAt_10 (l : Launch) (dC : Nat → ClassId) (dI : Nat → Nat → Nat) (sz : Nat) (ad : Nat → Nat) (ca : Nat → ClassId) : Met l yX12_handAt (jk yX12_handAt cX12_handAt 2 (some (.object "BookOfAll$Hand"))) ({ frames := 0, cells := 0, slots := 0, locals := 0 }) (va_Pc [.ref (ad 0), .int 3] (jw_P (dC, dI) (xW ad ca) (xT ca) sz)) (va_Qq (fun (r : Option Nat) (_ : Unit) => (r = none)) (fun _ _ => True) (va_A [] sz)) 0 0 (va_A [] sz) := by
  refine Met.ofW (cc := cX12_handAt) (maxL := 2) (ret := (some (.object "BookOfAll$Hand"))) (by decide) rfl ?_
  intro p e s m args below meth c s₁ B hml hv
  obtain ⟨rfl, hsz, hP, hK, hD0⟩ := hv
  have hx := B.exec
  have hb := B.bytes
  have hr := B.returns
  have hts := atoms_spec (ws := (jk yX12_handAt cX12_handAt 2 (some (.object "BookOfAll$Hand")))) B.pre
  have hown : s.vm.findClass RX12 = some m.cls := findClass_of_methodNamed B.named
  have hlocks := B.notSynchronized
  subst hsz
  have hD := hD0
  generalize hAe : (va_A [] s.heap.size) = A
  have hA : ∀ q : Nat, s.heap.size ≤ q → A q := fun q h => by rw [← hAe]; exact Or.inr h
  have hS : va_S A s.heap s.heap [] := va_S.rf
  have hP : va_P (dC, dI) vwCl (xW ad ca) s.heap := hP
  have hl := lv_entry ([.ref (ad 0), .int 3]) (n := 2) (Nat.le_of_ble_eq_true rfl)
  rw [lg_entry_eq]
  generalize (lg_sl ([.ref (ad 0), .int 3]) ++ List.replicate (2 - (lg_sl ([.ref (ad 0), .int 3])).length) Slot.unset).toArray = ls at hl ⊢
  have hl : lv_has ls 2 [(0, .ref (ad 0)), (1, .int 3)] := hl
  refine lv_iload_n hx hb dX12_handAt_0 rfl (lv_at hl 1 rfl) ?_
  refine lv_if_lt (tgt := 27) hx hb dX12_handAt_1 (by decide) (fun z => absurd z (by decide)) (fun _ => ?_)
  refine lv_iload_n hx hb dX12_handAt_4 rfl (lv_at hl 1 rfl) ?_
  refine lv_aload_n hx hb dX12_handAt_5 rfl (lv_at hl 0 rfl) ?_
  refine va_get (D := (dC, dI)) (ci := 12) (v := .int 0) (C := RX12) (T := TX12) (N := 20) hx hb hts (jh hin_RX12) hown hK hP 0 rfl rfl 11 (by decide) (hts (.fieldLink RX12 292 "BookOfAll" "handCount" "I") (jm m_339)) (fun _ h9 => h9) rfl dX12_handAt_6 ?_
  refine lv_icmp_ge (tgt := 27) hx hb dX12_handAt_9 (by decide) (fun _ => ?_) (fun z => absurd (by decide) z)
  refine lv_null hx hb dX12_handAt_27 ?_
  exact W.aret (v := .null) hx hb hr (Or.inl ⟨_, rfl⟩) (Or.inl rfl) (fun t ht hW => ⟨⟨none, (), rfl, rfl, trivial⟩, hS.F ht⟩) hS.2.2 dX12_handAt_28
set_option maxHeartbeats 500000 in
set_option maxRecDepth 100000 in
theorem kX12_livingHandAt_10 (l : Launch) (dC : Nat → ClassId) (dI : Nat → Nat → Nat) (sz : Nat) (ad : Nat → Nat) (ca : Nat → ClassId) : Met l yX12_livingHandAt (jk yX12_livingHandAt cX12_livingHandAt 3 (some (.object "BookOfAll$Hand"))) ({ frames := 1, cells := 0, slots := 0, locals := 21 }) (va_Pc [.ref (ad 0), .int 3] (jw_P (dC, dI) (xW ad ca) (xT ca) sz)) (va_Qq (fun (r : Option Nat) (_ : Unit) => (r = none)) (fun _ _ => True) (va_A [] sz)) 0 0 (va_A [] sz) := by
  refine Met.ofW (cc := cX12_livingHandAt) (maxL := 3) (ret := (some (.object "BookOfAll$Hand"))) (by decide) rfl ?_
  intro p e s m args below meth c s₁ B hml hv
  obtain ⟨rfl, hsz, hP, hK, hD0⟩ := hv
  have hx := B.exec
  have hb := B.bytes
  have hr := B.returns
  have hts := atoms_spec (ws := (jk yX12_livingHandAt cX12_livingHandAt 3 (some (.object "BookOfAll$Hand")))) B.pre
  have hown : s.vm.findClass RX12 = some m.cls := findClass_of_methodNamed B.named
  have hlocks := B.notSynchronized
  subst hsz
  have hD := hD0
  generalize hAe : (va_A [] s.heap.size) = A
  have hA : ∀ q : Nat, s.heap.size ≤ q → A q := fun q h => by rw [← hAe]; exact Or.inr h
  have hS : va_S A s.heap s.heap [] := va_S.rf
  have hP : va_P (dC, dI) vwCl (xW ad ca) s.heap := hP
  have hl := lv_entry ([.ref (ad 0), .int 3]) (n := 3) (Nat.le_of_ble_eq_true rfl)
  rw [lg_entry_eq]
  generalize (lg_sl ([.ref (ad 0), .int 3]) ++ List.replicate (3 - (lg_sl ([.ref (ad 0), .int 3])).length) Slot.unset).toArray = ls at hl ⊢
  have hl : lv_has ls 3 [(0, .ref (ad 0)), (1, .int 3)] := hl
  refine lv_aload_n hx hb dX12_livingHandAt_0 rfl (lv_at hl 0 rfl) ?_
  refine lv_iload_n hx hb dX12_livingHandAt_1 rfl (lv_at hl 1 rfl) ?_
  refine jc_q (va_runV (As := [.int 3]) (rest := []) ⟨hx, hb, hml, hown, hts⟩ (kX12_handAt_10 l dC dI _ ad ca) (cwV 1 hts (jgoodV m_352 m_353 m_354 m_210 m_355) rfl rfl rfl (by decide +kernel) ⟨Nat.le_of_ble_eq_true rfl, Nat.le_of_ble_eq_true rfl⟩) ⟨jw_blind, va_recv hK hP (ci := 12) (q0 := 0) rfl rfl, fun U hU hW => ⟨rfl, jw_of hU hW hP hK hD⟩⟩ rfl rfl hl.1 rfl (lv_room (Nat.le_of_ble_eq_true rfl)) dX12_livingHandAt_2 ⟨Nat.le_of_ble_eq_true rfl, Nat.le_of_ble_eq_true rfl⟩) hP hS hA (fun r_1 H locs hw_1 hP hS => ?_)
  have hw_1 : none = r_1 := Eq.symm hw_1
  subst hw_1
  refine jt_q Value.null rfl ?_
  refine lv_astore_nN (lv' := [(2, .null), (0, .ref (ad 0)), (1, .int 3)]) hx hb dX12_livingHandAt_5 rfl hl (by decide) rfl (fun ls hl => ?_)
  refine lv_aload_nN hx hb dX12_livingHandAt_6 rfl (lv_at hl 0 rfl) ?_
  refine lv_ifnullN (tgt := 21) hx hb dX12_livingHandAt_7 (by decide) ?_
  refine lv_null hx hb dX12_livingHandAt_21 ?_
  exact W.aret (v := .null) hx hb hr (Or.inl ⟨_, rfl⟩) (Or.inl rfl) (fun t ht hW => ⟨⟨none, (), rfl, rfl, trivial⟩, hS.F ht⟩) hS.2.2 dX12_livingHandAt_22
set_option maxHeartbeats 500000 in
set_option maxRecDepth 100000 in
theorem kX12_handAt_12 (l : Launch) (dC : Nat → ClassId) (dI : Nat → Nat → Nat) (sz : Nat) (ad : Nat → Nat) (ca : Nat → ClassId) : Met l yX12_handAt (jk yX12_handAt cX12_handAt 2 (some (.object "BookOfAll$Hand"))) ({ frames := 0, cells := 0, slots := 0, locals := 0 }) (va_Pc [.ref (ad 0), .int 4] (jw_P (dC, dI) (xW ad ca) (xT ca) sz)) (va_Qq (fun (r : Option Nat) (_ : Unit) => (r = none)) (fun _ _ => True) (va_A [] sz)) 0 0 (va_A [] sz) := by
  refine Met.ofW (cc := cX12_handAt) (maxL := 2) (ret := (some (.object "BookOfAll$Hand"))) (by decide) rfl ?_
  intro p e s m args below meth c s₁ B hml hv
  obtain ⟨rfl, hsz, hP, hK, hD0⟩ := hv
  have hx := B.exec
  have hb := B.bytes
  have hr := B.returns
  have hts := atoms_spec (ws := (jk yX12_handAt cX12_handAt 2 (some (.object "BookOfAll$Hand")))) B.pre
  have hown : s.vm.findClass RX12 = some m.cls := findClass_of_methodNamed B.named
  have hlocks := B.notSynchronized
  subst hsz
  have hD := hD0
  generalize hAe : (va_A [] s.heap.size) = A
  have hA : ∀ q : Nat, s.heap.size ≤ q → A q := fun q h => by rw [← hAe]; exact Or.inr h
  have hS : va_S A s.heap s.heap [] := va_S.rf
  have hP : va_P (dC, dI) vwCl (xW ad ca) s.heap := hP
  have hl := lv_entry ([.ref (ad 0), .int 4]) (n := 2) (Nat.le_of_ble_eq_true rfl)
  rw [lg_entry_eq]
  generalize (lg_sl ([.ref (ad 0), .int 4]) ++ List.replicate (2 - (lg_sl ([.ref (ad 0), .int 4])).length) Slot.unset).toArray = ls at hl ⊢
  have hl : lv_has ls 2 [(0, .ref (ad 0)), (1, .int 4)] := hl
  refine lv_iload_n hx hb dX12_handAt_0 rfl (lv_at hl 1 rfl) ?_
  refine lv_if_lt (tgt := 27) hx hb dX12_handAt_1 (by decide) (fun z => absurd z (by decide)) (fun _ => ?_)
  refine lv_iload_n hx hb dX12_handAt_4 rfl (lv_at hl 1 rfl) ?_
  refine lv_aload_n hx hb dX12_handAt_5 rfl (lv_at hl 0 rfl) ?_
  refine va_get (D := (dC, dI)) (ci := 12) (v := .int 0) (C := RX12) (T := TX12) (N := 20) hx hb hts (jh hin_RX12) hown hK hP 0 rfl rfl 11 (by decide) (hts (.fieldLink RX12 292 "BookOfAll" "handCount" "I") (jm m_339)) (fun _ h9 => h9) rfl dX12_handAt_6 ?_
  refine lv_icmp_ge (tgt := 27) hx hb dX12_handAt_9 (by decide) (fun _ => ?_) (fun z => absurd (by decide) z)
  refine lv_null hx hb dX12_handAt_27 ?_
  exact W.aret (v := .null) hx hb hr (Or.inl ⟨_, rfl⟩) (Or.inl rfl) (fun t ht hW => ⟨⟨none, (), rfl, rfl, trivial⟩, hS.F ht⟩) hS.2.2 dX12_handAt_28
set_option maxHeartbeats 500000 in
set_option maxRecDepth 100000 in
theorem kX12_livingHandAt_12 (l : Launch) (dC : Nat → ClassId) (dI : Nat → Nat → Nat) (sz : Nat) (ad : Nat → Nat) (ca : Nat → ClassId) : Met l yX12_livingHandAt (jk yX12_livingHandAt cX12_livingHandAt 3 (some (.object "BookOfAll$Hand"))) ({ frames := 1, cells := 0, slots := 0, locals := 21 }) (va_Pc [.ref (ad 0), .int 4] (jw_P (dC, dI) (xW ad ca) (xT ca) sz)) (va_Qq (fun (r : Option Nat) (_ : Unit) => (r = none)) (fun _ _ => True) (va_A [] sz)) 0 0 (va_A [] sz) := by
  refine Met.ofW (cc := cX12_livingHandAt) (maxL := 3) (ret := (some (.object "BookOfAll$Hand"))) (by decide) rfl ?_
  intro p e s m args below meth c s₁ B hml hv
  obtain ⟨rfl, hsz, hP, hK, hD0⟩ := hv
  have hx := B.exec
  have hb := B.bytes
  have hr := B.returns
  have hts := atoms_spec (ws := (jk yX12_livingHandAt cX12_livingHandAt 3 (some (.object "BookOfAll$Hand")))) B.pre
  have hown : s.vm.findClass RX12 = some m.cls := findClass_of_methodNamed B.named
  have hlocks := B.notSynchronized
  subst hsz
  have hD := hD0
  generalize hAe : (va_A [] s.heap.size) = A
  have hA : ∀ q : Nat, s.heap.size ≤ q → A q := fun q h => by rw [← hAe]; exact Or.inr h
  have hS : va_S A s.heap s.heap [] := va_S.rf
  have hP : va_P (dC, dI) vwCl (xW ad ca) s.heap := hP
  have hl := lv_entry ([.ref (ad 0), .int 4]) (n := 3) (Nat.le_of_ble_eq_true rfl)
  rw [lg_entry_eq]
  generalize (lg_sl ([.ref (ad 0), .int 4]) ++ List.replicate (3 - (lg_sl ([.ref (ad 0), .int 4])).length) Slot.unset).toArray = ls at hl ⊢
  have hl : lv_has ls 3 [(0, .ref (ad 0)), (1, .int 4)] := hl
  refine lv_aload_n hx hb dX12_livingHandAt_0 rfl (lv_at hl 0 rfl) ?_
  refine lv_iload_n hx hb dX12_livingHandAt_1 rfl (lv_at hl 1 rfl) ?_
  refine jc_q (va_runV (As := [.int 4]) (rest := []) ⟨hx, hb, hml, hown, hts⟩ (kX12_handAt_12 l dC dI _ ad ca) (cwV 1 hts (jgoodV m_352 m_353 m_354 m_210 m_355) rfl rfl rfl (by decide +kernel) ⟨Nat.le_of_ble_eq_true rfl, Nat.le_of_ble_eq_true rfl⟩) ⟨jw_blind, va_recv hK hP (ci := 12) (q0 := 0) rfl rfl, fun U hU hW => ⟨rfl, jw_of hU hW hP hK hD⟩⟩ rfl rfl hl.1 rfl (lv_room (Nat.le_of_ble_eq_true rfl)) dX12_livingHandAt_2 ⟨Nat.le_of_ble_eq_true rfl, Nat.le_of_ble_eq_true rfl⟩) hP hS hA (fun r_1 H locs hw_1 hP hS => ?_)
  have hw_1 : none = r_1 := Eq.symm hw_1
  subst hw_1
  refine jt_q Value.null rfl ?_
  refine lv_astore_nN (lv' := [(2, .null), (0, .ref (ad 0)), (1, .int 4)]) hx hb dX12_livingHandAt_5 rfl hl (by decide) rfl (fun ls hl => ?_)
  refine lv_aload_nN hx hb dX12_livingHandAt_6 rfl (lv_at hl 0 rfl) ?_
  refine lv_ifnullN (tgt := 21) hx hb dX12_livingHandAt_7 (by decide) ?_
  refine lv_null hx hb dX12_livingHandAt_21 ?_
  exact W.aret (v := .null) hx hb hr (Or.inl ⟨_, rfl⟩) (Or.inl rfl) (fun t ht hW => ⟨⟨none, (), rfl, rfl, trivial⟩, hS.F ht⟩) hS.2.2 dX12_livingHandAt_22
set_option maxHeartbeats 500000 in
set_option maxRecDepth 100000 in
theorem kX12_handAt_14 (l : Launch) (dC : Nat → ClassId) (dI : Nat → Nat → Nat) (sz : Nat) (ad : Nat → Nat) (ca : Nat → ClassId) : Met l yX12_handAt (jk yX12_handAt cX12_handAt 2 (some (.object "BookOfAll$Hand"))) ({ frames := 0, cells := 0, slots := 0, locals := 0 }) (va_Pc [.ref (ad 0), .int 5] (jw_P (dC, dI) (xW ad ca) (xT ca) sz)) (va_Qq (fun (r : Option Nat) (_ : Unit) => (r = none)) (fun _ _ => True) (va_A [] sz)) 0 0 (va_A [] sz) := by
  refine Met.ofW (cc := cX12_handAt) (maxL := 2) (ret := (some (.object "BookOfAll$Hand"))) (by decide) rfl ?_
  intro p e s m args below meth c s₁ B hml hv
  obtain ⟨rfl, hsz, hP, hK, hD0⟩ := hv
  have hx := B.exec
  have hb := B.bytes
  have hr := B.returns
  have hts := atoms_spec (ws := (jk yX12_handAt cX12_handAt 2 (some (.object "BookOfAll$Hand")))) B.pre
  have hown : s.vm.findClass RX12 = some m.cls := findClass_of_methodNamed B.named
  have hlocks := B.notSynchronized
  subst hsz
  have hD := hD0
  generalize hAe : (va_A [] s.heap.size) = A
  have hA : ∀ q : Nat, s.heap.size ≤ q → A q := fun q h => by rw [← hAe]; exact Or.inr h
  have hS : va_S A s.heap s.heap [] := va_S.rf
  have hP : va_P (dC, dI) vwCl (xW ad ca) s.heap := hP
  have hl := lv_entry ([.ref (ad 0), .int 5]) (n := 2) (Nat.le_of_ble_eq_true rfl)
  rw [lg_entry_eq]
  generalize (lg_sl ([.ref (ad 0), .int 5]) ++ List.replicate (2 - (lg_sl ([.ref (ad 0), .int 5])).length) Slot.unset).toArray = ls at hl ⊢
  have hl : lv_has ls 2 [(0, .ref (ad 0)), (1, .int 5)] := hl
  refine lv_iload_n hx hb dX12_handAt_0 rfl (lv_at hl 1 rfl) ?_
  refine lv_if_lt (tgt := 27) hx hb dX12_handAt_1 (by decide) (fun z => absurd z (by decide)) (fun _ => ?_)
  refine lv_iload_n hx hb dX12_handAt_4 rfl (lv_at hl 1 rfl) ?_
  refine lv_aload_n hx hb dX12_handAt_5 rfl (lv_at hl 0 rfl) ?_
  refine va_get (D := (dC, dI)) (ci := 12) (v := .int 0) (C := RX12) (T := TX12) (N := 20) hx hb hts (jh hin_RX12) hown hK hP 0 rfl rfl 11 (by decide) (hts (.fieldLink RX12 292 "BookOfAll" "handCount" "I") (jm m_339)) (fun _ h9 => h9) rfl dX12_handAt_6 ?_
  refine lv_icmp_ge (tgt := 27) hx hb dX12_handAt_9 (by decide) (fun _ => ?_) (fun z => absurd (by decide) z)
  refine lv_null hx hb dX12_handAt_27 ?_
  exact W.aret (v := .null) hx hb hr (Or.inl ⟨_, rfl⟩) (Or.inl rfl) (fun t ht hW => ⟨⟨none, (), rfl, rfl, trivial⟩, hS.F ht⟩) hS.2.2 dX12_handAt_28
set_option maxHeartbeats 500000 in
set_option maxRecDepth 100000 in
theorem kX12_livingHandAt_14 (l : Launch) (dC : Nat → ClassId) (dI : Nat → Nat → Nat) (sz : Nat) (ad : Nat → Nat) (ca : Nat → ClassId) : Met l yX12_livingHandAt (jk yX12_livingHandAt cX12_livingHandAt 3 (some (.object "BookOfAll$Hand"))) ({ frames := 1, cells := 0, slots := 0, locals := 21 }) (va_Pc [.ref (ad 0), .int 5] (jw_P (dC, dI) (xW ad ca) (xT ca) sz)) (va_Qq (fun (r : Option Nat) (_ : Unit) => (r = none)) (fun _ _ => True) (va_A [] sz)) 0 0 (va_A [] sz) := by
  refine Met.ofW (cc := cX12_livingHandAt) (maxL := 3) (ret := (some (.object "BookOfAll$Hand"))) (by decide) rfl ?_
  intro p e s m args below meth c s₁ B hml hv
  obtain ⟨rfl, hsz, hP, hK, hD0⟩ := hv
  have hx := B.exec
  have hb := B.bytes
  have hr := B.returns
  have hts := atoms_spec (ws := (jk yX12_livingHandAt cX12_livingHandAt 3 (some (.object "BookOfAll$Hand")))) B.pre
  have hown : s.vm.findClass RX12 = some m.cls := findClass_of_methodNamed B.named
  have hlocks := B.notSynchronized
  subst hsz
  have hD := hD0
  generalize hAe : (va_A [] s.heap.size) = A
  have hA : ∀ q : Nat, s.heap.size ≤ q → A q := fun q h => by rw [← hAe]; exact Or.inr h
  have hS : va_S A s.heap s.heap [] := va_S.rf
  have hP : va_P (dC, dI) vwCl (xW ad ca) s.heap := hP
  have hl := lv_entry ([.ref (ad 0), .int 5]) (n := 3) (Nat.le_of_ble_eq_true rfl)
  rw [lg_entry_eq]
  generalize (lg_sl ([.ref (ad 0), .int 5]) ++ List.replicate (3 - (lg_sl ([.ref (ad 0), .int 5])).length) Slot.unset).toArray = ls at hl ⊢
  have hl : lv_has ls 3 [(0, .ref (ad 0)), (1, .int 5)] := hl
  refine lv_aload_n hx hb dX12_livingHandAt_0 rfl (lv_at hl 0 rfl) ?_
  refine lv_iload_n hx hb dX12_livingHandAt_1 rfl (lv_at hl 1 rfl) ?_
  refine jc_q (va_runV (As := [.int 5]) (rest := []) ⟨hx, hb, hml, hown, hts⟩ (kX12_handAt_14 l dC dI _ ad ca) (cwV 1 hts (jgoodV m_352 m_353 m_354 m_210 m_355) rfl rfl rfl (by decide +kernel) ⟨Nat.le_of_ble_eq_true rfl, Nat.le_of_ble_eq_true rfl⟩) ⟨jw_blind, va_recv hK hP (ci := 12) (q0 := 0) rfl rfl, fun U hU hW => ⟨rfl, jw_of hU hW hP hK hD⟩⟩ rfl rfl hl.1 rfl (lv_room (Nat.le_of_ble_eq_true rfl)) dX12_livingHandAt_2 ⟨Nat.le_of_ble_eq_true rfl, Nat.le_of_ble_eq_true rfl⟩) hP hS hA (fun r_1 H locs hw_1 hP hS => ?_)
  have hw_1 : none = r_1 := Eq.symm hw_1
  subst hw_1
  refine jt_q Value.null rfl ?_
  refine lv_astore_nN (lv' := [(2, .null), (0, .ref (ad 0)), (1, .int 5)]) hx hb dX12_livingHandAt_5 rfl hl (by decide) rfl (fun ls hl => ?_)
  refine lv_aload_nN hx hb dX12_livingHandAt_6 rfl (lv_at hl 0 rfl) ?_
  refine lv_ifnullN (tgt := 21) hx hb dX12_livingHandAt_7 (by decide) ?_
  refine lv_null hx hb dX12_livingHandAt_21 ?_
  exact W.aret (v := .null) hx hb hr (Or.inl ⟨_, rfl⟩) (Or.inl rfl) (fun t ht hW => ⟨⟨none, (), rfl, rfl, trivial⟩, hS.F ht⟩) hS.2.2 dX12_livingHandAt_22
set_option maxHeartbeats 500000 in
set_option maxRecDepth 100000 in
theorem kX12_handAt_16 (l : Launch) (dC : Nat → ClassId) (dI : Nat → Nat → Nat) (sz : Nat) (ad : Nat → Nat) (ca : Nat → ClassId) : Met l yX12_handAt (jk yX12_handAt cX12_handAt 2 (some (.object "BookOfAll$Hand"))) ({ frames := 0, cells := 0, slots := 0, locals := 0 }) (va_Pc [.ref (ad 0), .int 6] (jw_P (dC, dI) (xW ad ca) (xT ca) sz)) (va_Qq (fun (r : Option Nat) (_ : Unit) => (r = none)) (fun _ _ => True) (va_A [] sz)) 0 0 (va_A [] sz) := by
  refine Met.ofW (cc := cX12_handAt) (maxL := 2) (ret := (some (.object "BookOfAll$Hand"))) (by decide) rfl ?_
  intro p e s m args below meth c s₁ B hml hv
  obtain ⟨rfl, hsz, hP, hK, hD0⟩ := hv
  have hx := B.exec
  have hb := B.bytes
  have hr := B.returns
  have hts := atoms_spec (ws := (jk yX12_handAt cX12_handAt 2 (some (.object "BookOfAll$Hand")))) B.pre
  have hown : s.vm.findClass RX12 = some m.cls := findClass_of_methodNamed B.named
  have hlocks := B.notSynchronized
  subst hsz
  have hD := hD0
  generalize hAe : (va_A [] s.heap.size) = A
  have hA : ∀ q : Nat, s.heap.size ≤ q → A q := fun q h => by rw [← hAe]; exact Or.inr h
  have hS : va_S A s.heap s.heap [] := va_S.rf
  have hP : va_P (dC, dI) vwCl (xW ad ca) s.heap := hP
  have hl := lv_entry ([.ref (ad 0), .int 6]) (n := 2) (Nat.le_of_ble_eq_true rfl)
  rw [lg_entry_eq]
  generalize (lg_sl ([.ref (ad 0), .int 6]) ++ List.replicate (2 - (lg_sl ([.ref (ad 0), .int 6])).length) Slot.unset).toArray = ls at hl ⊢
  have hl : lv_has ls 2 [(0, .ref (ad 0)), (1, .int 6)] := hl
  refine lv_iload_n hx hb dX12_handAt_0 rfl (lv_at hl 1 rfl) ?_
  refine lv_if_lt (tgt := 27) hx hb dX12_handAt_1 (by decide) (fun z => absurd z (by decide)) (fun _ => ?_)
  refine lv_iload_n hx hb dX12_handAt_4 rfl (lv_at hl 1 rfl) ?_
  refine lv_aload_n hx hb dX12_handAt_5 rfl (lv_at hl 0 rfl) ?_
  refine va_get (D := (dC, dI)) (ci := 12) (v := .int 0) (C := RX12) (T := TX12) (N := 20) hx hb hts (jh hin_RX12) hown hK hP 0 rfl rfl 11 (by decide) (hts (.fieldLink RX12 292 "BookOfAll" "handCount" "I") (jm m_339)) (fun _ h9 => h9) rfl dX12_handAt_6 ?_
  refine lv_icmp_ge (tgt := 27) hx hb dX12_handAt_9 (by decide) (fun _ => ?_) (fun z => absurd (by decide) z)
  refine lv_null hx hb dX12_handAt_27 ?_
  exact W.aret (v := .null) hx hb hr (Or.inl ⟨_, rfl⟩) (Or.inl rfl) (fun t ht hW => ⟨⟨none, (), rfl, rfl, trivial⟩, hS.F ht⟩) hS.2.2 dX12_handAt_28
set_option maxHeartbeats 500000 in
set_option maxRecDepth 100000 in
theorem kX12_livingHandAt_16 (l : Launch) (dC : Nat → ClassId) (dI : Nat → Nat → Nat) (sz : Nat) (ad : Nat → Nat) (ca : Nat → ClassId) : Met l yX12_livingHandAt (jk yX12_livingHandAt cX12_livingHandAt 3 (some (.object "BookOfAll$Hand"))) ({ frames := 1, cells := 0, slots := 0, locals := 21 }) (va_Pc [.ref (ad 0), .int 6] (jw_P (dC, dI) (xW ad ca) (xT ca) sz)) (va_Qq (fun (r : Option Nat) (_ : Unit) => (r = none)) (fun _ _ => True) (va_A [] sz)) 0 0 (va_A [] sz) := by
  refine Met.ofW (cc := cX12_livingHandAt) (maxL := 3) (ret := (some (.object "BookOfAll$Hand"))) (by decide) rfl ?_
  intro p e s m args below meth c s₁ B hml hv
  obtain ⟨rfl, hsz, hP, hK, hD0⟩ := hv
  have hx := B.exec
  have hb := B.bytes
  have hr := B.returns
  have hts := atoms_spec (ws := (jk yX12_livingHandAt cX12_livingHandAt 3 (some (.object "BookOfAll$Hand")))) B.pre
  have hown : s.vm.findClass RX12 = some m.cls := findClass_of_methodNamed B.named
  have hlocks := B.notSynchronized
  subst hsz
  have hD := hD0
  generalize hAe : (va_A [] s.heap.size) = A
  have hA : ∀ q : Nat, s.heap.size ≤ q → A q := fun q h => by rw [← hAe]; exact Or.inr h
  have hS : va_S A s.heap s.heap [] := va_S.rf
  have hP : va_P (dC, dI) vwCl (xW ad ca) s.heap := hP
  have hl := lv_entry ([.ref (ad 0), .int 6]) (n := 3) (Nat.le_of_ble_eq_true rfl)
  rw [lg_entry_eq]
  generalize (lg_sl ([.ref (ad 0), .int 6]) ++ List.replicate (3 - (lg_sl ([.ref (ad 0), .int 6])).length) Slot.unset).toArray = ls at hl ⊢
  have hl : lv_has ls 3 [(0, .ref (ad 0)), (1, .int 6)] := hl
  refine lv_aload_n hx hb dX12_livingHandAt_0 rfl (lv_at hl 0 rfl) ?_
  refine lv_iload_n hx hb dX12_livingHandAt_1 rfl (lv_at hl 1 rfl) ?_
  refine jc_q (va_runV (As := [.int 6]) (rest := []) ⟨hx, hb, hml, hown, hts⟩ (kX12_handAt_16 l dC dI _ ad ca) (cwV 1 hts (jgoodV m_352 m_353 m_354 m_210 m_355) rfl rfl rfl (by decide +kernel) ⟨Nat.le_of_ble_eq_true rfl, Nat.le_of_ble_eq_true rfl⟩) ⟨jw_blind, va_recv hK hP (ci := 12) (q0 := 0) rfl rfl, fun U hU hW => ⟨rfl, jw_of hU hW hP hK hD⟩⟩ rfl rfl hl.1 rfl (lv_room (Nat.le_of_ble_eq_true rfl)) dX12_livingHandAt_2 ⟨Nat.le_of_ble_eq_true rfl, Nat.le_of_ble_eq_true rfl⟩) hP hS hA (fun r_1 H locs hw_1 hP hS => ?_)
  have hw_1 : none = r_1 := Eq.symm hw_1
  subst hw_1
  refine jt_q Value.null rfl ?_
  refine lv_astore_nN (lv' := [(2, .null), (0, .ref (ad 0)), (1, .int 6)]) hx hb dX12_livingHandAt_5 rfl hl (by decide) rfl (fun ls hl => ?_)
  refine lv_aload_nN hx hb dX12_livingHandAt_6 rfl (lv_at hl 0 rfl) ?_
  refine lv_ifnullN (tgt := 21) hx hb dX12_livingHandAt_7 (by decide) ?_
  refine lv_null hx hb dX12_livingHandAt_21 ?_
  exact W.aret (v := .null) hx hb hr (Or.inl ⟨_, rfl⟩) (Or.inl rfl) (fun t ht hW => ⟨⟨none, (), rfl, rfl, trivial⟩, hS.F ht⟩) hS.2.2 dX12_livingHandAt_22
set_option maxHeartbeats 500000 in
set_option maxRecDepth 100000 in
theorem kX12_handAt_18 (l : Launch) (dC : Nat → ClassId) (dI : Nat → Nat → Nat) (sz : Nat) (ad : Nat → Nat) (ca : Nat → ClassId) : Met l yX12_handAt (jk yX12_handAt cX12_handAt 2 (some (.object "BookOfAll$Hand"))) ({ frames := 0, cells := 0, slots := 0, locals := 0 }) (va_Pc [.ref (ad 0), .int 7] (jw_P (dC, dI) (xW ad ca) (xT ca) sz)) (va_Qq (fun (r : Option Nat) (_ : Unit) => (r = none)) (fun _ _ => True) (va_A [] sz)) 0 0 (va_A [] sz) := by
  refine Met.ofW (cc := cX12_handAt) (maxL := 2) (ret := (some (.object "BookOfAll$Hand"))) (by decide) rfl ?_
  intro p e s m args below meth c s₁ B hml hv
  obtain ⟨rfl, hsz, hP, hK, hD0⟩ := hv
  have hx := B.exec
  have hb := B.bytes
  have hr := B.returns
  have hts := atoms_spec (ws := (jk yX12_handAt cX12_handAt 2 (some (.object "BookOfAll$Hand")))) B.pre
  have hown : s.vm.findClass RX12 = some m.cls := findClass_of_methodNamed B.named
  have hlocks := B.notSynchronized
  subst hsz
  have hD := hD0
  generalize hAe : (va_A [] s.heap.size) = A
  have hA : ∀ q : Nat, s.heap.size ≤ q → A q := fun q h => by rw [← hAe]; exact Or.inr h
  have hS : va_S A s.heap s.heap [] := va_S.rf
  have hP : va_P (dC, dI) vwCl (xW ad ca) s.heap := hP
  have hl := lv_entry ([.ref (ad 0), .int 7]) (n := 2) (Nat.le_of_ble_eq_true rfl)
  rw [lg_entry_eq]
  generalize (lg_sl ([.ref (ad 0), .int 7]) ++ List.replicate (2 - (lg_sl ([.ref (ad 0), .int 7])).length) Slot.unset).toArray = ls at hl ⊢
  have hl : lv_has ls 2 [(0, .ref (ad 0)), (1, .int 7)] := hl
  refine lv_iload_n hx hb dX12_handAt_0 rfl (lv_at hl 1 rfl) ?_
  refine lv_if_lt (tgt := 27) hx hb dX12_handAt_1 (by decide) (fun z => absurd z (by decide)) (fun _ => ?_)
  refine lv_iload_n hx hb dX12_handAt_4 rfl (lv_at hl 1 rfl) ?_
  refine lv_aload_n hx hb dX12_handAt_5 rfl (lv_at hl 0 rfl) ?_
  refine va_get (D := (dC, dI)) (ci := 12) (v := .int 0) (C := RX12) (T := TX12) (N := 20) hx hb hts (jh hin_RX12) hown hK hP 0 rfl rfl 11 (by decide) (hts (.fieldLink RX12 292 "BookOfAll" "handCount" "I") (jm m_339)) (fun _ h9 => h9) rfl dX12_handAt_6 ?_
  refine lv_icmp_ge (tgt := 27) hx hb dX12_handAt_9 (by decide) (fun _ => ?_) (fun z => absurd (by decide) z)
  refine lv_null hx hb dX12_handAt_27 ?_
  exact W.aret (v := .null) hx hb hr (Or.inl ⟨_, rfl⟩) (Or.inl rfl) (fun t ht hW => ⟨⟨none, (), rfl, rfl, trivial⟩, hS.F ht⟩) hS.2.2 dX12_handAt_28
set_option maxHeartbeats 500000 in
set_option maxRecDepth 100000 in
theorem kX12_livingHandAt_18 (l : Launch) (dC : Nat → ClassId) (dI : Nat → Nat → Nat) (sz : Nat) (ad : Nat → Nat) (ca : Nat → ClassId) : Met l yX12_livingHandAt (jk yX12_livingHandAt cX12_livingHandAt 3 (some (.object "BookOfAll$Hand"))) ({ frames := 1, cells := 0, slots := 0, locals := 21 }) (va_Pc [.ref (ad 0), .int 7] (jw_P (dC, dI) (xW ad ca) (xT ca) sz)) (va_Qq (fun (r : Option Nat) (_ : Unit) => (r = none)) (fun _ _ => True) (va_A [] sz)) 0 0 (va_A [] sz) := by
  refine Met.ofW (cc := cX12_livingHandAt) (maxL := 3) (ret := (some (.object "BookOfAll$Hand"))) (by decide) rfl ?_
  intro p e s m args below meth c s₁ B hml hv
  obtain ⟨rfl, hsz, hP, hK, hD0⟩ := hv
  have hx := B.exec
  have hb := B.bytes
  have hr := B.returns
  have hts := atoms_spec (ws := (jk yX12_livingHandAt cX12_livingHandAt 3 (some (.object "BookOfAll$Hand")))) B.pre
  have hown : s.vm.findClass RX12 = some m.cls := findClass_of_methodNamed B.named
  have hlocks := B.notSynchronized
  subst hsz
  have hD := hD0
  generalize hAe : (va_A [] s.heap.size) = A
  have hA : ∀ q : Nat, s.heap.size ≤ q → A q := fun q h => by rw [← hAe]; exact Or.inr h
  have hS : va_S A s.heap s.heap [] := va_S.rf
  have hP : va_P (dC, dI) vwCl (xW ad ca) s.heap := hP
  have hl := lv_entry ([.ref (ad 0), .int 7]) (n := 3) (Nat.le_of_ble_eq_true rfl)
  rw [lg_entry_eq]
  generalize (lg_sl ([.ref (ad 0), .int 7]) ++ List.replicate (3 - (lg_sl ([.ref (ad 0), .int 7])).length) Slot.unset).toArray = ls at hl ⊢
  have hl : lv_has ls 3 [(0, .ref (ad 0)), (1, .int 7)] := hl
  refine lv_aload_n hx hb dX12_livingHandAt_0 rfl (lv_at hl 0 rfl) ?_
  refine lv_iload_n hx hb dX12_livingHandAt_1 rfl (lv_at hl 1 rfl) ?_
  refine jc_q (va_runV (As := [.int 7]) (rest := []) ⟨hx, hb, hml, hown, hts⟩ (kX12_handAt_18 l dC dI _ ad ca) (cwV 1 hts (jgoodV m_352 m_353 m_354 m_210 m_355) rfl rfl rfl (by decide +kernel) ⟨Nat.le_of_ble_eq_true rfl, Nat.le_of_ble_eq_true rfl⟩) ⟨jw_blind, va_recv hK hP (ci := 12) (q0 := 0) rfl rfl, fun U hU hW => ⟨rfl, jw_of hU hW hP hK hD⟩⟩ rfl rfl hl.1 rfl (lv_room (Nat.le_of_ble_eq_true rfl)) dX12_livingHandAt_2 ⟨Nat.le_of_ble_eq_true rfl, Nat.le_of_ble_eq_true rfl⟩) hP hS hA (fun r_1 H locs hw_1 hP hS => ?_)
  have hw_1 : none = r_1 := Eq.symm hw_1
  subst hw_1
  refine jt_q Value.null rfl ?_
  refine lv_astore_nN (lv' := [(2, .null), (0, .ref (ad 0)), (1, .int 7)]) hx hb dX12_livingHandAt_5 rfl hl (by decide) rfl (fun ls hl => ?_)
  refine lv_aload_nN hx hb dX12_livingHandAt_6 rfl (lv_at hl 0 rfl) ?_
  refine lv_ifnullN (tgt := 21) hx hb dX12_livingHandAt_7 (by decide) ?_
  refine lv_null hx hb dX12_livingHandAt_21 ?_
  exact W.aret (v := .null) hx hb hr (Or.inl ⟨_, rfl⟩) (Or.inl rfl) (fun t ht hW => ⟨⟨none, (), rfl, rfl, trivial⟩, hS.F ht⟩) hS.2.2 dX12_livingHandAt_22
set_option maxHeartbeats 500000 in
set_option maxRecDepth 100000 in
theorem kX12_handAt_20 (l : Launch) (dC : Nat → ClassId) (dI : Nat → Nat → Nat) (sz : Nat) (ad : Nat → Nat) (ca : Nat → ClassId) : Met l yX12_handAt (jk yX12_handAt cX12_handAt 2 (some (.object "BookOfAll$Hand"))) ({ frames := 0, cells := 0, slots := 0, locals := 0 }) (va_Pc [.ref (ad 0), .int 8] (jw_P (dC, dI) (xW ad ca) (xT ca) sz)) (va_Qq (fun (r : Option Nat) (_ : Unit) => (r = none)) (fun _ _ => True) (va_A [] sz)) 0 0 (va_A [] sz) := by
  refine Met.ofW (cc := cX12_handAt) (maxL := 2) (ret := (some (.object "BookOfAll$Hand"))) (by decide) rfl ?_
  intro p e s m args below meth c s₁ B hml hv
  obtain ⟨rfl, hsz, hP, hK, hD0⟩ := hv
  have hx := B.exec
  have hb := B.bytes
  have hr := B.returns
  have hts := atoms_spec (ws := (jk yX12_handAt cX12_handAt 2 (some (.object "BookOfAll$Hand")))) B.pre
  have hown : s.vm.findClass RX12 = some m.cls := findClass_of_methodNamed B.named
  have hlocks := B.notSynchronized
  subst hsz
  have hD := hD0
  generalize hAe : (va_A [] s.heap.size) = A
  have hA : ∀ q : Nat, s.heap.size ≤ q → A q := fun q h => by rw [← hAe]; exact Or.inr h
  have hS : va_S A s.heap s.heap [] := va_S.rf
  have hP : va_P (dC, dI) vwCl (xW ad ca) s.heap := hP
  have hl := lv_entry ([.ref (ad 0), .int 8]) (n := 2) (Nat.le_of_ble_eq_true rfl)
  rw [lg_entry_eq]
  generalize (lg_sl ([.ref (ad 0), .int 8]) ++ List.replicate (2 - (lg_sl ([.ref (ad 0), .int 8])).length) Slot.unset).toArray = ls at hl ⊢
  have hl : lv_has ls 2 [(0, .ref (ad 0)), (1, .int 8)] := hl
  refine lv_iload_n hx hb dX12_handAt_0 rfl (lv_at hl 1 rfl) ?_
  refine lv_if_lt (tgt := 27) hx hb dX12_handAt_1 (by decide) (fun z => absurd z (by decide)) (fun _ => ?_)
  refine lv_iload_n hx hb dX12_handAt_4 rfl (lv_at hl 1 rfl) ?_
  refine lv_aload_n hx hb dX12_handAt_5 rfl (lv_at hl 0 rfl) ?_
  refine va_get (D := (dC, dI)) (ci := 12) (v := .int 0) (C := RX12) (T := TX12) (N := 20) hx hb hts (jh hin_RX12) hown hK hP 0 rfl rfl 11 (by decide) (hts (.fieldLink RX12 292 "BookOfAll" "handCount" "I") (jm m_339)) (fun _ h9 => h9) rfl dX12_handAt_6 ?_
  refine lv_icmp_ge (tgt := 27) hx hb dX12_handAt_9 (by decide) (fun _ => ?_) (fun z => absurd (by decide) z)
  refine lv_null hx hb dX12_handAt_27 ?_
  exact W.aret (v := .null) hx hb hr (Or.inl ⟨_, rfl⟩) (Or.inl rfl) (fun t ht hW => ⟨⟨none, (), rfl, rfl, trivial⟩, hS.F ht⟩) hS.2.2 dX12_handAt_28
set_option maxHeartbeats 500000 in
set_option maxRecDepth 100000 in
theorem kX12_livingHandAt_20 (l : Launch) (dC : Nat → ClassId) (dI : Nat → Nat → Nat) (sz : Nat) (ad : Nat → Nat) (ca : Nat → ClassId) : Met l yX12_livingHandAt (jk yX12_livingHandAt cX12_livingHandAt 3 (some (.object "BookOfAll$Hand"))) ({ frames := 1, cells := 0, slots := 0, locals := 21 }) (va_Pc [.ref (ad 0), .int 8] (jw_P (dC, dI) (xW ad ca) (xT ca) sz)) (va_Qq (fun (r : Option Nat) (_ : Unit) => (r = none)) (fun _ _ => True) (va_A [] sz)) 0 0 (va_A [] sz) := by
  refine Met.ofW (cc := cX12_livingHandAt) (maxL := 3) (ret := (some (.object "BookOfAll$Hand"))) (by decide) rfl ?_
  intro p e s m args below meth c s₁ B hml hv
  obtain ⟨rfl, hsz, hP, hK, hD0⟩ := hv
  have hx := B.exec
  have hb := B.bytes
  have hr := B.returns
  have hts := atoms_spec (ws := (jk yX12_livingHandAt cX12_livingHandAt 3 (some (.object "BookOfAll$Hand")))) B.pre
  have hown : s.vm.findClass RX12 = some m.cls := findClass_of_methodNamed B.named
  have hlocks := B.notSynchronized
  subst hsz
  have hD := hD0
  generalize hAe : (va_A [] s.heap.size) = A
  have hA : ∀ q : Nat, s.heap.size ≤ q → A q := fun q h => by rw [← hAe]; exact Or.inr h
  have hS : va_S A s.heap s.heap [] := va_S.rf
  have hP : va_P (dC, dI) vwCl (xW ad ca) s.heap := hP
  have hl := lv_entry ([.ref (ad 0), .int 8]) (n := 3) (Nat.le_of_ble_eq_true rfl)
  rw [lg_entry_eq]
  generalize (lg_sl ([.ref (ad 0), .int 8]) ++ List.replicate (3 - (lg_sl ([.ref (ad 0), .int 8])).length) Slot.unset).toArray = ls at hl ⊢
  have hl : lv_has ls 3 [(0, .ref (ad 0)), (1, .int 8)] := hl
  refine lv_aload_n hx hb dX12_livingHandAt_0 rfl (lv_at hl 0 rfl) ?_
  refine lv_iload_n hx hb dX12_livingHandAt_1 rfl (lv_at hl 1 rfl) ?_
  refine jc_q (va_runV (As := [.int 8]) (rest := []) ⟨hx, hb, hml, hown, hts⟩ (kX12_handAt_20 l dC dI _ ad ca) (cwV 1 hts (jgoodV m_352 m_353 m_354 m_210 m_355) rfl rfl rfl (by decide +kernel) ⟨Nat.le_of_ble_eq_true rfl, Nat.le_of_ble_eq_true rfl⟩) ⟨jw_blind, va_recv hK hP (ci := 12) (q0 := 0) rfl rfl, fun U hU hW => ⟨rfl, jw_of hU hW hP hK hD⟩⟩ rfl rfl hl.1 rfl (lv_room (Nat.le_of_ble_eq_true rfl)) dX12_livingHandAt_2 ⟨Nat.le_of_ble_eq_true rfl, Nat.le_of_ble_eq_true rfl⟩) hP hS hA (fun r_1 H locs hw_1 hP hS => ?_)
  have hw_1 : none = r_1 := Eq.symm hw_1
  subst hw_1
  refine jt_q Value.null rfl ?_
  refine lv_astore_nN (lv' := [(2, .null), (0, .ref (ad 0)), (1, .int 8)]) hx hb dX12_livingHandAt_5 rfl hl (by decide) rfl (fun ls hl => ?_)
  refine lv_aload_nN hx hb dX12_livingHandAt_6 rfl (lv_at hl 0 rfl) ?_
  refine lv_ifnullN (tgt := 21) hx hb dX12_livingHandAt_7 (by decide) ?_
  refine lv_null hx hb dX12_livingHandAt_21 ?_
  exact W.aret (v := .null) hx hb hr (Or.inl ⟨_, rfl⟩) (Or.inl rfl) (fun t ht hW => ⟨⟨none, (), rfl, rfl, trivial⟩, hS.F ht⟩) hS.2.2 dX12_livingHandAt_22
set_option maxHeartbeats 500000 in
set_option maxRecDepth 100000 in
theorem kX12_handAt_22 (l : Launch) (dC : Nat → ClassId) (dI : Nat → Nat → Nat) (sz : Nat) (ad : Nat → Nat) (ca : Nat → ClassId) : Met l yX12_handAt (jk yX12_handAt cX12_handAt 2 (some (.object "BookOfAll$Hand"))) ({ frames := 0, cells := 0, slots := 0, locals := 0 }) (va_Pc [.ref (ad 0), .int 9] (jw_P (dC, dI) (xW ad ca) (xT ca) sz)) (va_Qq (fun (r : Option Nat) (_ : Unit) => (r = none)) (fun _ _ => True) (va_A [] sz)) 0 0 (va_A [] sz) := by
  refine Met.ofW (cc := cX12_handAt) (maxL := 2) (ret := (some (.object "BookOfAll$Hand"))) (by decide) rfl ?_
  intro p e s m args below meth c s₁ B hml hv
  obtain ⟨rfl, hsz, hP, hK, hD0⟩ := hv
  have hx := B.exec
  have hb := B.bytes
  have hr := B.returns
  have hts := atoms_spec (ws := (jk yX12_handAt cX12_handAt 2 (some (.object "BookOfAll$Hand")))) B.pre
  have hown : s.vm.findClass RX12 = some m.cls := findClass_of_methodNamed B.named
  have hlocks := B.notSynchronized
  subst hsz
  have hD := hD0
  generalize hAe : (va_A [] s.heap.size) = A
  have hA : ∀ q : Nat, s.heap.size ≤ q → A q := fun q h => by rw [← hAe]; exact Or.inr h
  have hS : va_S A s.heap s.heap [] := va_S.rf
  have hP : va_P (dC, dI) vwCl (xW ad ca) s.heap := hP
  have hl := lv_entry ([.ref (ad 0), .int 9]) (n := 2) (Nat.le_of_ble_eq_true rfl)
  rw [lg_entry_eq]
  generalize (lg_sl ([.ref (ad 0), .int 9]) ++ List.replicate (2 - (lg_sl ([.ref (ad 0), .int 9])).length) Slot.unset).toArray = ls at hl ⊢
  have hl : lv_has ls 2 [(0, .ref (ad 0)), (1, .int 9)] := hl
  refine lv_iload_n hx hb dX12_handAt_0 rfl (lv_at hl 1 rfl) ?_
  refine lv_if_lt (tgt := 27) hx hb dX12_handAt_1 (by decide) (fun z => absurd z (by decide)) (fun _ => ?_)
  refine lv_iload_n hx hb dX12_handAt_4 rfl (lv_at hl 1 rfl) ?_
  refine lv_aload_n hx hb dX12_handAt_5 rfl (lv_at hl 0 rfl) ?_
  refine va_get (D := (dC, dI)) (ci := 12) (v := .int 0) (C := RX12) (T := TX12) (N := 20) hx hb hts (jh hin_RX12) hown hK hP 0 rfl rfl 11 (by decide) (hts (.fieldLink RX12 292 "BookOfAll" "handCount" "I") (jm m_339)) (fun _ h9 => h9) rfl dX12_handAt_6 ?_
  refine lv_icmp_ge (tgt := 27) hx hb dX12_handAt_9 (by decide) (fun _ => ?_) (fun z => absurd (by decide) z)
  refine lv_null hx hb dX12_handAt_27 ?_
  exact W.aret (v := .null) hx hb hr (Or.inl ⟨_, rfl⟩) (Or.inl rfl) (fun t ht hW => ⟨⟨none, (), rfl, rfl, trivial⟩, hS.F ht⟩) hS.2.2 dX12_handAt_28
