set_option maxHeartbeats 500000 in
set_option maxRecDepth 100000 in
theorem kX12_livingHandAt_22 (l : Launch) (dC : Nat → ClassId) (dI : Nat → Nat → Nat) (sz : Nat) (ad : Nat → Nat) (ca : Nat → ClassId) : Met l yX12_livingHandAt (jk yX12_livingHandAt cX12_livingHandAt 3 (some (.object "BookOfAll$Hand"))) ({ frames := 1, cells := 0, slots := 0, locals := 21 }) (va_Pc [.ref (ad 0), .int 9] (jw_P (dC, dI) (xW ad ca) (xT ca) sz)) (va_Qq (fun (r : Option Nat) (_ : Unit) => (r = none)) (fun _ _ => True) (va_A [] sz)) 0 0 (va_A [] sz) := by
  refine Met.ofW (cc := cX12_livingHandAt) (maxL := 3) (ret := (some (.object "BookOfAll$Hand"))) (by decide) rfl ?_
  intro p e s m args below meth c s₁ B hml hv
  obtain ⟨rfl, hsz, hP, hK, hD0⟩ := hv
  have hx := B.exec
  have hb := B.bytes
  have hr := B.returns
  have hts := atoms_spec (ws := (jk yX12_livingHandAt cX12_livingHandAt 3 (some (.object "BookOfAll$Hand")))) B.pre
  have hown : s.vm.findClass RX12 = some m.cls := findClass_of_methodNamed B.named
  have hlocks := B.notSynchronized
  subst hsz
  have hD := hD0
  generalize hAe : (va_A [] s.heap.size) = A
  have hA : ∀ q : Nat, s.heap.size ≤ q → A q := fun q h => by rw [← hAe]; exact Or.inr h
  have hS : va_S A s.heap s.heap [] := va_S.rf
  have hP : va_P (dC, dI) vwCl (xW ad ca) s.heap := hP
  have hl := lv_entry ([.ref (ad 0), .int 9]) (n := 3) (Nat.le_of_ble_eq_true rfl)
  rw [lg_entry_eq]
  generalize (lg_sl ([.ref (ad 0), .int 9]) ++ List.replicate (3 - (lg_sl ([.ref (ad 0), .int 9])).length) Slot.unset).toArray = ls at hl ⊢
  have hl : lv_has ls 3 [(0, .ref (ad 0)), (1, .int 9)] := hl
  refine lv_aload_n hx hb dX12_livingHandAt_0 rfl (lv_at hl 0 rfl) ?_
  refine lv_iload_n hx hb dX12_livingHandAt_1 rfl (lv_at hl 1 rfl) ?_
  refine jc_q (va_runV (As := [.int 9]) (rest := []) ⟨hx, hb, hml, hown, hts⟩ (kX12_handAt_22 l dC dI _ ad ca) (cwV 1 hts (jgoodV m_352 m_353 m_354 m_210 m_355) rfl rfl rfl (by decide +kernel) ⟨Nat.le_of_ble_eq_true rfl, Nat.le_of_ble_eq_true rfl⟩) ⟨jw_blind, va_recv hK hP (ci := 12) (q0 := 0) rfl rfl, fun U hU hW => ⟨rfl, jw_of hU hW hP hK hD⟩⟩ rfl rfl hl.1 rfl (lv_room (Nat.le_of_ble_eq_true rfl)) dX12_livingHandAt_2 ⟨Nat.le_of_ble_eq_true rfl, Nat.le_of_ble_eq_true rfl⟩) hP hS hA (fun r_1 H locs hw_1 hP hS => ?_)
  have hw_1 : none = r_1 := Eq.symm hw_1
  subst hw_1
  refine jt_q Value.null rfl ?_
  refine lv_astore_nN (lv' := [(2, .null), (0, .ref (ad 0)), (1, .int 9)]) hx hb dX12_livingHandAt_5 rfl hl (by decide) rfl (fun ls hl => ?_)
  refine lv_aload_nN hx hb dX12_livingHandAt_6 rfl (lv_at hl 0 rfl) ?_
  refine lv_ifnullN (tgt := 21) hx hb dX12_livingHandAt_7 (by decide) ?_
  refine lv_null hx hb dX12_livingHandAt_21 ?_
  exact W.aret (v := .null) hx hb hr (Or.inl ⟨_, rfl⟩) (Or.inl rfl) (fun t ht hW => ⟨⟨none, (), rfl, rfl, trivial⟩, hS.F ht⟩) hS.2.2 dX12_livingHandAt_22
set_option maxHeartbeats 500000 in
set_option maxRecDepth 100000 in
theorem kX12_handAt_24 (l : Launch) (dC : Nat → ClassId) (dI : Nat → Nat → Nat) (sz : Nat) (ad : Nat → Nat) (ca : Nat → ClassId) : Met l yX12_handAt (jk yX12_handAt cX12_handAt 2 (some (.object "BookOfAll$Hand"))) ({ frames := 0, cells := 0, slots := 0, locals := 0 }) (va_Pc [.ref (ad 0), .int 10] (jw_P (dC, dI) (xW ad ca) (xT ca) sz)) (va_Qq (fun (r : Option Nat) (_ : Unit) => (r = none)) (fun _ _ => True) (va_A [] sz)) 0 0 (va_A [] sz) := by
  refine Met.ofW (cc := cX12_handAt) (maxL := 2) (ret := (some (.object "BookOfAll$Hand"))) (by decide) rfl ?_
  intro p e s m args below meth c s₁ B hml hv
  obtain ⟨rfl, hsz, hP, hK, hD0⟩ := hv
  have hx := B.exec
  have hb := B.bytes
  have hr := B.returns
  have hts := atoms_spec (ws := (jk yX12_handAt cX12_handAt 2 (some (.object "BookOfAll$Hand")))) B.pre
  have hown : s.vm.findClass RX12 = some m.cls := findClass_of_methodNamed B.named
  have hlocks := B.notSynchronized
  subst hsz
  have hD := hD0
  generalize hAe : (va_A [] s.heap.size) = A
  have hA : ∀ q : Nat, s.heap.size ≤ q → A q := fun q h => by rw [← hAe]; exact Or.inr h
  have hS : va_S A s.heap s.heap [] := va_S.rf
  have hP : va_P (dC, dI) vwCl (xW ad ca) s.heap := hP
  have hl := lv_entry ([.ref (ad 0), .int 10]) (n := 2) (Nat.le_of_ble_eq_true rfl)
  rw [lg_entry_eq]
  generalize (lg_sl ([.ref (ad 0), .int 10]) ++ List.replicate (2 - (lg_sl ([.ref (ad 0), .int 10])).length) Slot.unset).toArray = ls at hl ⊢
  have hl : lv_has ls 2 [(0, .ref (ad 0)), (1, .int 10)] := hl
  refine lv_iload_n hx hb dX12_handAt_0 rfl (lv_at hl 1 rfl) ?_
  refine lv_if_lt (tgt := 27) hx hb dX12_handAt_1 (by decide) (fun z => absurd z (by decide)) (fun _ => ?_)
  refine lv_iload_n hx hb dX12_handAt_4 rfl (lv_at hl 1 rfl) ?_
  refine lv_aload_n hx hb dX12_handAt_5 rfl (lv_at hl 0 rfl) ?_
  refine va_get (D := (dC, dI)) (ci := 12) (v := .int 0) (C := RX12) (T := TX12) (N := 20) hx hb hts (jh hin_RX12) hown hK hP 0 rfl rfl 11 (by decide) (hts (.fieldLink RX12 292 "BookOfAll" "handCount" "I") (jm m_339)) (fun _ h9 => h9) rfl dX12_handAt_6 ?_
  refine lv_icmp_ge (tgt := 27) hx hb dX12_handAt_9 (by decide) (fun _ => ?_) (fun z => absurd (by decide) z)
  refine lv_null hx hb dX12_handAt_27 ?_
  exact W.aret (v := .null) hx hb hr (Or.inl ⟨_, rfl⟩) (Or.inl rfl) (fun t ht hW => ⟨⟨none, (), rfl, rfl, trivial⟩, hS.F ht⟩) hS.2.2 dX12_handAt_28
set_option maxHeartbeats 500000 in
set_option maxRecDepth 100000 in
theorem kX12_livingHandAt_24 (l : Launch) (dC : Nat → ClassId) (dI : Nat → Nat → Nat) (sz : Nat) (ad : Nat → Nat) (ca : Nat → ClassId) : Met l yX12_livingHandAt (jk yX12_livingHandAt cX12_livingHandAt 3 (some (.object "BookOfAll$Hand"))) ({ frames := 1, cells := 0, slots := 0, locals := 21 }) (va_Pc [.ref (ad 0), .int 10] (jw_P (dC, dI) (xW ad ca) (xT ca) sz)) (va_Qq (fun (r : Option Nat) (_ : Unit) => (r = none)) (fun _ _ => True) (va_A [] sz)) 0 0 (va_A [] sz) := by
  refine Met.ofW (cc := cX12_livingHandAt) (maxL := 3) (ret := (some (.object "BookOfAll$Hand"))) (by decide) rfl ?_
  intro p e s m args below meth c s₁ B hml hv
  obtain ⟨rfl, hsz, hP, hK, hD0⟩ := hv
  have hx := B.exec
  have hb := B.bytes
  have hr := B.returns
  have hts := atoms_spec (ws := (jk yX12_livingHandAt cX12_livingHandAt 3 (some (.object "BookOfAll$Hand")))) B.pre
  have hown : s.vm.findClass RX12 = some m.cls := findClass_of_methodNamed B.named
  have hlocks := B.notSynchronized
  subst hsz
  have hD := hD0
  generalize hAe : (va_A [] s.heap.size) = A
  have hA : ∀ q : Nat, s.heap.size ≤ q → A q := fun q h => by rw [← hAe]; exact Or.inr h
  have hS : va_S A s.heap s.heap [] := va_S.rf
  have hP : va_P (dC, dI) vwCl (xW ad ca) s.heap := hP
  have hl := lv_entry ([.ref (ad 0), .int 10]) (n := 3) (Nat.le_of_ble_eq_true rfl)
  rw [lg_entry_eq]
  generalize (lg_sl ([.ref (ad 0), .int 10]) ++ List.replicate (3 - (lg_sl ([.ref (ad 0), .int 10])).length) Slot.unset).toArray = ls at hl ⊢
  have hl : lv_has ls 3 [(0, .ref (ad 0)), (1, .int 10)] := hl
  refine lv_aload_n hx hb dX12_livingHandAt_0 rfl (lv_at hl 0 rfl) ?_
  refine lv_iload_n hx hb dX12_livingHandAt_1 rfl (lv_at hl 1 rfl) ?_
  refine jc_q (va_runV (As := [.int 10]) (rest := []) ⟨hx, hb, hml, hown, hts⟩ (kX12_handAt_24 l dC dI _ ad ca) (cwV 1 hts (jgoodV m_352 m_353 m_354 m_210 m_355) rfl rfl rfl (by decide +kernel) ⟨Nat.le_of_ble_eq_true rfl, Nat.le_of_ble_eq_true rfl⟩) ⟨jw_blind, va_recv hK hP (ci := 12) (q0 := 0) rfl rfl, fun U hU hW => ⟨rfl, jw_of hU hW hP hK hD⟩⟩ rfl rfl hl.1 rfl (lv_room (Nat.le_of_ble_eq_true rfl)) dX12_livingHandAt_2 ⟨Nat.le_of_ble_eq_true rfl, Nat.le_of_ble_eq_true rfl⟩) hP hS hA (fun r_1 H locs hw_1 hP hS => ?_)
  have hw_1 : none = r_1 := Eq.symm hw_1
  subst hw_1
  refine jt_q Value.null rfl ?_
  refine lv_astore_nN (lv' := [(2, .null), (0, .ref (ad 0)), (1, .int 10)]) hx hb dX12_livingHandAt_5 rfl hl (by decide) rfl (fun ls hl => ?_)
  refine lv_aload_nN hx hb dX12_livingHandAt_6 rfl (lv_at hl 0 rfl) ?_
  refine lv_ifnullN (tgt := 21) hx hb dX12_livingHandAt_7 (by decide) ?_
  refine lv_null hx hb dX12_livingHandAt_21 ?_
  exact W.aret (v := .null) hx hb hr (Or.inl ⟨_, rfl⟩) (Or.inl rfl) (fun t ht hW => ⟨⟨none, (), rfl, rfl, trivial⟩, hS.F ht⟩) hS.2.2 dX12_livingHandAt_22
set_option maxHeartbeats 500000 in
set_option maxRecDepth 100000 in
theorem kX12_handAt_26 (l : Launch) (dC : Nat → ClassId) (dI : Nat → Nat → Nat) (sz : Nat) (ad : Nat → Nat) (ca : Nat → ClassId) : Met l yX12_handAt (jk yX12_handAt cX12_handAt 2 (some (.object "BookOfAll$Hand"))) ({ frames := 0, cells := 0, slots := 0, locals := 0 }) (va_Pc [.ref (ad 0), .int 11] (jw_P (dC, dI) (xW ad ca) (xT ca) sz)) (va_Qq (fun (r : Option Nat) (_ : Unit) => (r = none)) (fun _ _ => True) (va_A [] sz)) 0 0 (va_A [] sz) := by
  refine Met.ofW (cc := cX12_handAt) (maxL := 2) (ret := (some (.object "BookOfAll$Hand"))) (by decide) rfl ?_
  intro p e s m args below meth c s₁ B hml hv
  obtain ⟨rfl, hsz, hP, hK, hD0⟩ := hv
  have hx := B.exec
  have hb := B.bytes
  have hr := B.returns
  have hts := atoms_spec (ws := (jk yX12_handAt cX12_handAt 2 (some (.object "BookOfAll$Hand")))) B.pre
  have hown : s.vm.findClass RX12 = some m.cls := findClass_of_methodNamed B.named
  have hlocks := B.notSynchronized
  subst hsz
  have hD := hD0
  generalize hAe : (va_A [] s.heap.size) = A
  have hA : ∀ q : Nat, s.heap.size ≤ q → A q := fun q h => by rw [← hAe]; exact Or.inr h
  have hS : va_S A s.heap s.heap [] := va_S.rf
  have hP : va_P (dC, dI) vwCl (xW ad ca) s.heap := hP
  have hl := lv_entry ([.ref (ad 0), .int 11]) (n := 2) (Nat.le_of_ble_eq_true rfl)
  rw [lg_entry_eq]
  generalize (lg_sl ([.ref (ad 0), .int 11]) ++ List.replicate (2 - (lg_sl ([.ref (ad 0), .int 11])).length) Slot.unset).toArray = ls at hl ⊢
  have hl : lv_has ls 2 [(0, .ref (ad 0)), (1, .int 11)] := hl
  refine lv_iload_n hx hb dX12_handAt_0 rfl (lv_at hl 1 rfl) ?_
  refine lv_if_lt (tgt := 27) hx hb dX12_handAt_1 (by decide) (fun z => absurd z (by decide)) (fun _ => ?_)
  refine lv_iload_n hx hb dX12_handAt_4 rfl (lv_at hl 1 rfl) ?_
  refine lv_aload_n hx hb dX12_handAt_5 rfl (lv_at hl 0 rfl) ?_
  refine va_get (D := (dC, dI)) (ci := 12) (v := .int 0) (C := RX12) (T := TX12) (N := 20) hx hb hts (jh hin_RX12) hown hK hP 0 rfl rfl 11 (by decide) (hts (.fieldLink RX12 292 "BookOfAll" "handCount" "I") (jm m_339)) (fun _ h9 => h9) rfl dX12_handAt_6 ?_
  refine lv_icmp_ge (tgt := 27) hx hb dX12_handAt_9 (by decide) (fun _ => ?_) (fun z => absurd (by decide) z)
  refine lv_null hx hb dX12_handAt_27 ?_
  exact W.aret (v := .null) hx hb hr (Or.inl ⟨_, rfl⟩) (Or.inl rfl) (fun t ht hW => ⟨⟨none, (), rfl, rfl, trivial⟩, hS.F ht⟩) hS.2.2 dX12_handAt_28
set_option maxHeartbeats 500000 in
set_option maxRecDepth 100000 in
theorem kX12_livingHandAt_26 (l : Launch) (dC : Nat → ClassId) (dI : Nat → Nat → Nat) (sz : Nat) (ad : Nat → Nat) (ca : Nat → ClassId) : Met l yX12_livingHandAt (jk yX12_livingHandAt cX12_livingHandAt 3 (some (.object "BookOfAll$Hand"))) ({ frames := 1, cells := 0, slots := 0, locals := 21 }) (va_Pc [.ref (ad 0), .int 11] (jw_P (dC, dI) (xW ad ca) (xT ca) sz)) (va_Qq (fun (r : Option Nat) (_ : Unit) => (r = none)) (fun _ _ => True) (va_A [] sz)) 0 0 (va_A [] sz) := by
  refine Met.ofW (cc := cX12_livingHandAt) (maxL := 3) (ret := (some (.object "BookOfAll$Hand"))) (by decide) rfl ?_
  intro p e s m args below meth c s₁ B hml hv
  obtain ⟨rfl, hsz, hP, hK, hD0⟩ := hv
  have hx := B.exec
  have hb := B.bytes
  have hr := B.returns
  have hts := atoms_spec (ws := (jk yX12_livingHandAt cX12_livingHandAt 3 (some (.object "BookOfAll$Hand")))) B.pre
  have hown : s.vm.findClass RX12 = some m.cls := findClass_of_methodNamed B.named
  have hlocks := B.notSynchronized
  subst hsz
  have hD := hD0
  generalize hAe : (va_A [] s.heap.size) = A
  have hA : ∀ q : Nat, s.heap.size ≤ q → A q := fun q h => by rw [← hAe]; exact Or.inr h
  have hS : va_S A s.heap s.heap [] := va_S.rf
  have hP : va_P (dC, dI) vwCl (xW ad ca) s.heap := hP
  have hl := lv_entry ([.ref (ad 0), .int 11]) (n := 3) (Nat.le_of_ble_eq_true rfl)
  rw [lg_entry_eq]
  generalize (lg_sl ([.ref (ad 0), .int 11]) ++ List.replicate (3 - (lg_sl ([.ref (ad 0), .int 11])).length) Slot.unset).toArray = ls at hl ⊢
  have hl : lv_has ls 3 [(0, .ref (ad 0)), (1, .int 11)] := hl
  refine lv_aload_n hx hb dX12_livingHandAt_0 rfl (lv_at hl 0 rfl) ?_
  refine lv_iload_n hx hb dX12_livingHandAt_1 rfl (lv_at hl 1 rfl) ?_
  refine jc_q (va_runV (As := [.int 11]) (rest := []) ⟨hx, hb, hml, hown, hts⟩ (kX12_handAt_26 l dC dI _ ad ca) (cwV 1 hts (jgoodV m_352 m_353 m_354 m_210 m_355) rfl rfl rfl (by decide +kernel) ⟨Nat.le_of_ble_eq_true rfl, Nat.le_of_ble_eq_true rfl⟩) ⟨jw_blind, va_recv hK hP (ci := 12) (q0 := 0) rfl rfl, fun U hU hW => ⟨rfl, jw_of hU hW hP hK hD⟩⟩ rfl rfl hl.1 rfl (lv_room (Nat.le_of_ble_eq_true rfl)) dX12_livingHandAt_2 ⟨Nat.le_of_ble_eq_true rfl, Nat.le_of_ble_eq_true rfl⟩) hP hS hA (fun r_1 H locs hw_1 hP hS => ?_)
  have hw_1 : none = r_1 := Eq.symm hw_1
  subst hw_1
  refine jt_q Value.null rfl ?_
  refine lv_astore_nN (lv' := [(2, .null), (0, .ref (ad 0)), (1, .int 11)]) hx hb dX12_livingHandAt_5 rfl hl (by decide) rfl (fun ls hl => ?_)
  refine lv_aload_nN hx hb dX12_livingHandAt_6 rfl (lv_at hl 0 rfl) ?_
  refine lv_ifnullN (tgt := 21) hx hb dX12_livingHandAt_7 (by decide) ?_
  refine lv_null hx hb dX12_livingHandAt_21 ?_
  exact W.aret (v := .null) hx hb hr (Or.inl ⟨_, rfl⟩) (Or.inl rfl) (fun t ht hW => ⟨⟨none, (), rfl, rfl, trivial⟩, hS.F ht⟩) hS.2.2 dX12_livingHandAt_22
set_option maxHeartbeats 500000 in
set_option maxRecDepth 100000 in
theorem kX12_addHands_4 (l : Launch) (dC : Nat → ClassId) (dI : Nat → Nat → Nat) (sz : Nat) (ad : Nat → Nat) (ca : Nat → ClassId) (p1 : Int32) (p2 : Int32) (fl1 : 1 ≤ p1) (fh1 : p1 ≤ 4095) (fl2 : 1 ≤ p2) (fh2 : p2 ≤ 400) : Met l yX12_addHands (jk yX12_addHands cX12_addHands 5 (some .boolean)) ({ frames := 2, cells := 0, slots := 0, locals := 43 }) (va_Pc [.ref (ad 0), .int p1, .int p2] (jw_P (dC, dI) (xW ad ca) (xT ca) sz)) (va_Qi (fun (r : Int32) (_ : Unit) => (r = 0)) (fun _ t => va_P (dC, dI) vwCl (xW ad ca) t.heap ∧ va_K (dC, dI) vwCl (xT ca) t ∧ va_D (va_A (xW ad ca) sz) (xW ad ca)) (va_A (xW ad ca) sz)) 0 0 (va_A (xW ad ca) sz) := by
  refine Met.ofW (cc := cX12_addHands) (maxL := 5) (ret := (some .boolean)) (by decide) rfl ?_
  intro p e s m args below meth c s₁ B hml hv
  obtain ⟨rfl, hsz, hP, hK, hD0⟩ := hv
  have hx := B.exec
  have hb := B.bytes
  have hr := B.returns
  have hts := atoms_spec (ws := (jk yX12_addHands cX12_addHands 5 (some .boolean))) B.pre
  have hown : s.vm.findClass RX12 = some m.cls := findClass_of_methodNamed B.named
  have hlocks := B.notSynchronized
  subst hsz
  have hD := hD0.self (sz := s.heap.size)
  generalize hAe : (va_A (xW ad ca) s.heap.size) = A at hD ⊢
  have hA : ∀ q : Nat, s.heap.size ≤ q → A q := fun q h => by rw [← hAe]; exact Or.inr h
  have hS : va_S A s.heap s.heap [] := va_S.rf
  have hP : va_P (dC, dI) vwCl (xW ad ca) s.heap := hP
  have hl := lv_entry ([.ref (ad 0), .int p1, .int p2]) (n := 5) (Nat.le_of_ble_eq_true rfl)
  rw [lg_entry_eq]
  generalize (lg_sl ([.ref (ad 0), .int p1, .int p2]) ++ List.replicate (5 - (lg_sl ([.ref (ad 0), .int p1, .int p2])).length) Slot.unset).toArray = ls at hl ⊢
  have hl : lv_has ls 5 [(0, .ref (ad 0)), (1, .int p1), (2, .int p2)] := hl
  refine lv_aload_n hx hb dX12_addHands_0 rfl (lv_at hl 0 rfl) ?_
  refine va_get (D := (dC, dI)) (ci := 12) (v := .ref (ad 61)) (C := RX12) (T := TX12) (N := 20) hx hb hts (jh hin_RX12) hown hK hP 0 rfl rfl 18 (by decide) (hts (.fieldLink RX12 92 "BookOfAll" "giver" "LBookOfAll$Giver;") (jm m_461)) (fun _ h9 => h9) rfl dX12_addHands_1 ?_
  refine jcw_v (va_runV (As := []) (rest := []) ⟨hx, hb, hml, hown, hts⟩ (kX1_begin_2 l dC dI _ ad ca) (cwV 0 hts (jgoodV m_464 m_465 m_466 m_467 m_468) rfl rfl rfl (by decide +kernel) ⟨Nat.le_of_ble_eq_true rfl, Nat.le_of_ble_eq_true rfl⟩) ⟨jw_blind, va_recv hK hP (ci := 1) (q0 := 61) rfl rfl, fun U hU hW => ⟨rfl, jw_of hU hW hP hK hD⟩⟩ rfl rfl hl.1 rfl (lv_room (Nat.le_of_ble_eq_true rfl)) dX12_addHands_4 ⟨Nat.le_of_ble_eq_true rfl, Nat.le_of_ble_eq_true rfl⟩) hD hS hA (fun H locs hw_1 hP hK hD hS => ?_)
  refine lv_iconst (v := 0) hx hb dX12_addHands_7 (by decide) ?_
  refine lv_istore_n (lv' := [(3, .int 0), (0, .ref (ad 0)), (1, .int p1), (2, .int p2)]) hx hb dX12_addHands_8 rfl hl (by decide) rfl (fun ls hl => ?_)
  refine lv_iload_n hx hb dX12_addHands_9 rfl (lv_at hl 0 rfl) ?_
  refine lv_bipush (v := 12) hx hb dX12_addHands_10 (by decide) ?_
  refine lv_icmp_ge (tgt := 61) hx hb dX12_addHands_12 (by decide) (fun z => absurd z (by decide)) (fun _ => ?_)
  refine lv_iload_n hx hb dX12_addHands_15 rfl (lv_at hl 2 rfl) ?_
  refine lv_iload_n hx hb dX12_addHands_16 rfl (lv_at hl 0 rfl) ?_
  refine lv_ishr hx hb dX12_addHands_17 ?_
  refine lv_iconst (v := 1) hx hb dX12_addHands_18 (by decide) ?_
  refine lv_iand hx hb dX12_addHands_19 ?_
  refine lv_if_ne (tgt := 26) hx hb dX12_addHands_20 (by decide) (fun c_2 => ?_) (fun c_2 => ?_)
  · refine lv_aload_n hx hb dX12_addHands_26 rfl (lv_at hl 1 rfl) ?_
    refine lv_iload_n hx hb dX12_addHands_27 rfl (lv_at hl 0 rfl) ?_
    refine jc_q (va_runV (As := [.int 0]) (rest := []) ⟨hx, hb, hml, hown, hts⟩ (kX12_livingHandAt_4 l dC dI _ ad ca) (cwV 1 hts (jgoodV m_356 m_357 m_358 m_210 m_359) rfl rfl rfl (by decide +kernel) ⟨Nat.le_of_ble_eq_true rfl, Nat.le_of_ble_eq_true rfl⟩) ⟨jw_blind, va_recv hK hP (ci := 12) (q0 := 0) rfl rfl, fun U hU hW => ⟨rfl, jw_of hU hW hP hK hD⟩⟩ rfl rfl hl.1 rfl (lv_room (Nat.le_of_ble_eq_true rfl)) dX12_addHands_28 ⟨Nat.le_of_ble_eq_true rfl, Nat.le_of_ble_eq_true rfl⟩) hP hS hA (fun r_3 H locs hw_3 hP hS => ?_)
    have hw_3 : none = r_3 := Eq.symm hw_3
    subst hw_3
    refine jt_q Value.null rfl ?_
    refine lv_astoreN (lv' := [(4, .null), (3, .int 0), (0, .ref (ad 0)), (1, .int p1), (2, .int p2)]) hx hb dX12_addHands_31 hl (by decide) rfl (fun ls hl => ?_)
    refine lv_aloadN hx hb dX12_addHands_33 (lv_at hl 0 rfl) ?_
    refine lv_ifnonnullN hx hb dX12_addHands_35 ?_
    refine lv_iconst (v := 0) hx hb dX12_addHands_38 (by decide) ?_
    exact W.zret (v := 0) (ty := .boolean) hx hb hr rfl (fun t ht hW => ⟨⟨0, (), rfl, rfl, by rw [ht]; exact hP, va_K.moved hW.alike hK, hD⟩, hS.F ht⟩) hS.2.2 dX12_addHands_39
  · refine lv_goto (tgt := 55) hx hb dX12_addHands_23 (by decide) ?_
    refine lv_iinc (v := 1) (lv' := [(3, .int 1), (0, .ref (ad 0)), (1, .int p1), (2, .int p2)]) hx hb dX12_addHands_55 hl (k := 0) rfl (by decide) (by decide) rfl (fun ls hl => ?_)
    refine lv_goto (tgt := 9) hx hb dX12_addHands_58 (by decide) ?_
    refine lv_iload_n hx hb dX12_addHands_9 rfl (lv_at hl 0 rfl) ?_
    refine lv_bipush (v := 12) hx hb dX12_addHands_10 (by decide) ?_
    refine lv_icmp_ge (tgt := 61) hx hb dX12_addHands_12 (by decide) (fun z => absurd z (by decide)) (fun _ => ?_)
    refine lv_iload_n hx hb dX12_addHands_15 rfl (lv_at hl 2 rfl) ?_
    refine lv_iload_n hx hb dX12_addHands_16 rfl (lv_at hl 0 rfl) ?_
    refine lv_ishr hx hb dX12_addHands_17 ?_
    refine lv_iconst (v := 1) hx hb dX12_addHands_18 (by decide) ?_
    refine lv_iand hx hb dX12_addHands_19 ?_
    refine lv_if_ne (tgt := 26) hx hb dX12_addHands_20 (by decide) (fun c_4 => ?_) (fun c_4 => ?_)
    · refine lv_aload_n hx hb dX12_addHands_26 rfl (lv_at hl 1 rfl) ?_
      refine lv_iload_n hx hb dX12_addHands_27 rfl (lv_at hl 0 rfl) ?_
      refine jc_q (va_runV (As := [.int 1]) (rest := []) ⟨hx, hb, hml, hown, hts⟩ (kX12_livingHandAt_6 l dC dI _ ad ca) (cwV 1 hts (jgoodV m_356 m_357 m_358 m_210 m_359) rfl rfl rfl (by decide +kernel) ⟨Nat.le_of_ble_eq_true rfl, Nat.le_of_ble_eq_true rfl⟩) ⟨jw_blind, va_recv hK hP (ci := 12) (q0 := 0) rfl rfl, fun U hU hW => ⟨rfl, jw_of hU hW hP hK hD⟩⟩ rfl rfl hl.1 rfl (lv_room (Nat.le_of_ble_eq_true rfl)) dX12_addHands_28 ⟨Nat.le_of_ble_eq_true rfl, Nat.le_of_ble_eq_true rfl⟩) hP hS hA (fun r_5 H locs hw_5 hP hS => ?_)
      have hw_5 : none = r_5 := Eq.symm hw_5
      subst hw_5
      refine jt_q Value.null rfl ?_
      refine lv_astoreN (lv' := [(4, .null), (3, .int 1), (0, .ref (ad 0)), (1, .int p1), (2, .int p2)]) hx hb dX12_addHands_31 hl (by decide) rfl (fun ls hl => ?_)
      refine lv_aloadN hx hb dX12_addHands_33 (lv_at hl 0 rfl) ?_
      refine lv_ifnonnullN hx hb dX12_addHands_35 ?_
      refine lv_iconst (v := 0) hx hb dX12_addHands_38 (by decide) ?_
      exact W.zret (v := 0) (ty := .boolean) hx hb hr rfl (fun t ht hW => ⟨⟨0, (), rfl, rfl, by rw [ht]; exact hP, va_K.moved hW.alike hK, hD⟩, hS.F ht⟩) hS.2.2 dX12_addHands_39
    · refine lv_goto (tgt := 55) hx hb dX12_addHands_23 (by decide) ?_
      refine lv_iinc (v := 2) (lv' := [(3, .int 2), (0, .ref (ad 0)), (1, .int p1), (2, .int p2)]) hx hb dX12_addHands_55 hl (k := 0) rfl (by decide) (by decide) rfl (fun ls hl => ?_)
      refine lv_goto (tgt := 9) hx hb dX12_addHands_58 (by decide) ?_
      refine lv_iload_n hx hb dX12_addHands_9 rfl (lv_at hl 0 rfl) ?_
      refine lv_bipush (v := 12) hx hb dX12_addHands_10 (by decide) ?_
      refine lv_icmp_ge (tgt := 61) hx hb dX12_addHands_12 (by decide) (fun z => absurd z (by decide)) (fun _ => ?_)
      refine lv_iload_n hx hb dX12_addHands_15 rfl (lv_at hl 2 rfl) ?_
      refine lv_iload_n hx hb dX12_addHands_16 rfl (lv_at hl 0 rfl) ?_
      refine lv_ishr hx hb dX12_addHands_17 ?_
      refine lv_iconst (v := 1) hx hb dX12_addHands_18 (by decide) ?_
      refine lv_iand hx hb dX12_addHands_19 ?_
      refine lv_if_ne (tgt := 26) hx hb dX12_addHands_20 (by decide) (fun c_6 => ?_) (fun c_6 => ?_)
      · refine lv_aload_n hx hb dX12_addHands_26 rfl (lv_at hl 1 rfl) ?_
        refine lv_iload_n hx hb dX12_addHands_27 rfl (lv_at hl 0 rfl) ?_
        refine jc_q (va_runV (As := [.int 2]) (rest := []) ⟨hx, hb, hml, hown, hts⟩ (kX12_livingHandAt_8 l dC dI _ ad ca) (cwV 1 hts (jgoodV m_356 m_357 m_358 m_210 m_359) rfl rfl rfl (by decide +kernel) ⟨Nat.le_of_ble_eq_true rfl, Nat.le_of_ble_eq_true rfl⟩) ⟨jw_blind, va_recv hK hP (ci := 12) (q0 := 0) rfl rfl, fun U hU hW => ⟨rfl, jw_of hU hW hP hK hD⟩⟩ rfl rfl hl.1 rfl (lv_room (Nat.le_of_ble_eq_true rfl)) dX12_addHands_28 ⟨Nat.le_of_ble_eq_true rfl, Nat.le_of_ble_eq_true rfl⟩) hP hS hA (fun r_7 H locs hw_7 hP hS => ?_)
        have hw_7 : none = r_7 := Eq.symm hw_7
        subst hw_7
        refine jt_q Value.null rfl ?_
        refine lv_astoreN (lv' := [(4, .null), (3, .int 2), (0, .ref (ad 0)), (1, .int p1), (2, .int p2)]) hx hb dX12_addHands_31 hl (by decide) rfl (fun ls hl => ?_)
        refine lv_aloadN hx hb dX12_addHands_33 (lv_at hl 0 rfl) ?_
        refine lv_ifnonnullN hx hb dX12_addHands_35 ?_
        refine lv_iconst (v := 0) hx hb dX12_addHands_38 (by decide) ?_
        exact W.zret (v := 0) (ty := .boolean) hx hb hr rfl (fun t ht hW => ⟨⟨0, (), rfl, rfl, by rw [ht]; exact hP, va_K.moved hW.alike hK, hD⟩, hS.F ht⟩) hS.2.2 dX12_addHands_39
      · refine lv_goto (tgt := 55) hx hb dX12_addHands_23 (by decide) ?_
        refine lv_iinc (v := 3) (lv' := [(3, .int 3), (0, .ref (ad 0)), (1, .int p1), (2, .int p2)]) hx hb dX12_addHands_55 hl (k := 0) rfl (by decide) (by decide) rfl (fun ls hl => ?_)
        refine lv_goto (tgt := 9) hx hb dX12_addHands_58 (by decide) ?_
        refine lv_iload_n hx hb dX12_addHands_9 rfl (lv_at hl 0 rfl) ?_
        refine lv_bipush (v := 12) hx hb dX12_addHands_10 (by decide) ?_
        refine lv_icmp_ge (tgt := 61) hx hb dX12_addHands_12 (by decide) (fun z => absurd z (by decide)) (fun _ => ?_)
        refine lv_iload_n hx hb dX12_addHands_15 rfl (lv_at hl 2 rfl) ?_
        refine lv_iload_n hx hb dX12_addHands_16 rfl (lv_at hl 0 rfl) ?_
        refine lv_ishr hx hb dX12_addHands_17 ?_
        refine lv_iconst (v := 1) hx hb dX12_addHands_18 (by decide) ?_
        refine lv_iand hx hb dX12_addHands_19 ?_
        refine lv_if_ne (tgt := 26) hx hb dX12_addHands_20 (by decide) (fun c_8 => ?_) (fun c_8 => ?_)
        · refine lv_aload_n hx hb dX12_addHands_26 rfl (lv_at hl 1 rfl) ?_
          refine lv_iload_n hx hb dX12_addHands_27 rfl (lv_at hl 0 rfl) ?_
          refine jc_q (va_runV (As := [.int 3]) (rest := []) ⟨hx, hb, hml, hown, hts⟩ (kX12_livingHandAt_10 l dC dI _ ad ca) (cwV 1 hts (jgoodV m_356 m_357 m_358 m_210 m_359) rfl rfl rfl (by decide +kernel) ⟨Nat.le_of_ble_eq_true rfl, Nat.le_of_ble_eq_true rfl⟩) ⟨jw_blind, va_recv hK hP (ci := 12) (q0 := 0) rfl rfl, fun U hU hW => ⟨rfl, jw_of hU hW hP hK hD⟩⟩ rfl rfl hl.1 rfl (lv_room (Nat.le_of_ble_eq_true rfl)) dX12_addHands_28 ⟨Nat.le_of_ble_eq_true rfl, Nat.le_of_ble_eq_true rfl⟩) hP hS hA (fun r_9 H locs hw_9 hP hS => ?_)
          have hw_9 : none = r_9 := Eq.symm hw_9
          subst hw_9
          refine jt_q Value.null rfl ?_
          refine lv_astoreN (lv' := [(4, .null), (3, .int 3), (0, .ref (ad 0)), (1, .int p1), (2, .int p2)]) hx hb dX12_addHands_31 hl (by decide) rfl (fun ls hl => ?_)
          refine lv_aloadN hx hb dX12_addHands_33 (lv_at hl 0 rfl) ?_
          refine lv_ifnonnullN hx hb dX12_addHands_35 ?_
          refine lv_iconst (v := 0) hx hb dX12_addHands_38 (by decide) ?_
          exact W.zret (v := 0) (ty := .boolean) hx hb hr rfl (fun t ht hW => ⟨⟨0, (), rfl, rfl, by rw [ht]; exact hP, va_K.moved hW.alike hK, hD⟩, hS.F ht⟩) hS.2.2 dX12_addHands_39
        · refine lv_goto (tgt := 55) hx hb dX12_addHands_23 (by decide) ?_
          refine lv_iinc (v := 4) (lv' := [(3, .int 4), (0, .ref (ad 0)), (1, .int p1), (2, .int p2)]) hx hb dX12_addHands_55 hl (k := 0) rfl (by decide) (by decide) rfl (fun ls hl => ?_)
          refine lv_goto (tgt := 9) hx hb dX12_addHands_58 (by decide) ?_
          refine lv_iload_n hx hb dX12_addHands_9 rfl (lv_at hl 0 rfl) ?_
          refine lv_bipush (v := 12) hx hb dX12_addHands_10 (by decide) ?_
          refine lv_icmp_ge (tgt := 61) hx hb dX12_addHands_12 (by decide) (fun z => absurd z (by decide)) (fun _ => ?_)
          refine lv_iload_n hx hb dX12_addHands_15 rfl (lv_at hl 2 rfl) ?_
          refine lv_iload_n hx hb dX12_addHands_16 rfl (lv_at hl 0 rfl) ?_
          refine lv_ishr hx hb dX12_addHands_17 ?_
          refine lv_iconst (v := 1) hx hb dX12_addHands_18 (by decide) ?_
          refine lv_iand hx hb dX12_addHands_19 ?_
          refine lv_if_ne (tgt := 26) hx hb dX12_addHands_20 (by decide) (fun c_10 => ?_) (fun c_10 => ?_)
          · refine lv_aload_n hx hb dX12_addHands_26 rfl (lv_at hl 1 rfl) ?_
            refine lv_iload_n hx hb dX12_addHands_27 rfl (lv_at hl 0 rfl) ?_
            refine jc_q (va_runV (As := [.int 4]) (rest := []) ⟨hx, hb, hml, hown, hts⟩ (kX12_livingHandAt_12 l dC dI _ ad ca) (cwV 1 hts (jgoodV m_356 m_357 m_358 m_210 m_359) rfl rfl rfl (by decide +kernel) ⟨Nat.le_of_ble_eq_true rfl, Nat.le_of_ble_eq_true rfl⟩) ⟨jw_blind, va_recv hK hP (ci := 12) (q0 := 0) rfl rfl, fun U hU hW => ⟨rfl, jw_of hU hW hP hK hD⟩⟩ rfl rfl hl.1 rfl (lv_room (Nat.le_of_ble_eq_true rfl)) dX12_addHands_28 ⟨Nat.le_of_ble_eq_true rfl, Nat.le_of_ble_eq_true rfl⟩) hP hS hA (fun r_11 H locs hw_11 hP hS => ?_)
            have hw_11 : none = r_11 := Eq.symm hw_11
            subst hw_11
            refine jt_q Value.null rfl ?_
            refine lv_astoreN (lv' := [(4, .null), (3, .int 4), (0, .ref (ad 0)), (1, .int p1), (2, .int p2)]) hx hb dX12_addHands_31 hl (by decide) rfl (fun ls hl => ?_)
            refine lv_aloadN hx hb dX12_addHands_33 (lv_at hl 0 rfl) ?_
            refine lv_ifnonnullN hx hb dX12_addHands_35 ?_
            refine lv_iconst (v := 0) hx hb dX12_addHands_38 (by decide) ?_
            exact W.zret (v := 0) (ty := .boolean) hx hb hr rfl (fun t ht hW => ⟨⟨0, (), rfl, rfl, by rw [ht]; exact hP, va_K.moved hW.alike hK, hD⟩, hS.F ht⟩) hS.2.2 dX12_addHands_39
          · refine lv_goto (tgt := 55) hx hb dX12_addHands_23 (by decide) ?_
            refine lv_iinc (v := 5) (lv' := [(3, .int 5), (0, .ref (ad 0)), (1, .int p1), (2, .int p2)]) hx hb dX12_addHands_55 hl (k := 0) rfl (by decide) (by decide) rfl (fun ls hl => ?_)
            refine lv_goto (tgt := 9) hx hb dX12_addHands_58 (by decide) ?_
            refine lv_iload_n hx hb dX12_addHands_9 rfl (lv_at hl 0 rfl) ?_
            refine lv_bipush (v := 12) hx hb dX12_addHands_10 (by decide) ?_
            refine lv_icmp_ge (tgt := 61) hx hb dX12_addHands_12 (by decide) (fun z => absurd z (by decide)) (fun _ => ?_)
            refine lv_iload_n hx hb dX12_addHands_15 rfl (lv_at hl 2 rfl) ?_
            refine lv_iload_n hx hb dX12_addHands_16 rfl (lv_at hl 0 rfl) ?_
            refine lv_ishr hx hb dX12_addHands_17 ?_
            refine lv_iconst (v := 1) hx hb dX12_addHands_18 (by decide) ?_
            refine lv_iand hx hb dX12_addHands_19 ?_
            refine lv_if_ne (tgt := 26) hx hb dX12_addHands_20 (by decide) (fun c_12 => ?_) (fun c_12 => ?_)
            · refine lv_aload_n hx hb dX12_addHands_26 rfl (lv_at hl 1 rfl) ?_
              refine lv_iload_n hx hb dX12_addHands_27 rfl (lv_at hl 0 rfl) ?_
              refine jc_q (va_runV (As := [.int 5]) (rest := []) ⟨hx, hb, hml, hown, hts⟩ (kX12_livingHandAt_14 l dC dI _ ad ca) (cwV 1 hts (jgoodV m_356 m_357 m_358 m_210 m_359) rfl rfl rfl (by decide +kernel) ⟨Nat.le_of_ble_eq_true rfl, Nat.le_of_ble_eq_true rfl⟩) ⟨jw_blind, va_recv hK hP (ci := 12) (q0 := 0) rfl rfl, fun U hU hW => ⟨rfl, jw_of hU hW hP hK hD⟩⟩ rfl rfl hl.1 rfl (lv_room (Nat.le_of_ble_eq_true rfl)) dX12_addHands_28 ⟨Nat.le_of_ble_eq_true rfl, Nat.le_of_ble_eq_true rfl⟩) hP hS hA (fun r_13 H locs hw_13 hP hS => ?_)
              have hw_13 : none = r_13 := Eq.symm hw_13
              subst hw_13
              refine jt_q Value.null rfl ?_
              refine lv_astoreN (lv' := [(4, .null), (3, .int 5), (0, .ref (ad 0)), (1, .int p1), (2, .int p2)]) hx hb dX12_addHands_31 hl (by decide) rfl (fun ls hl => ?_)
              refine lv_aloadN hx hb dX12_addHands_33 (lv_at hl 0 rfl) ?_
              refine lv_ifnonnullN hx hb dX12_addHands_35 ?_
              refine lv_iconst (v := 0) hx hb dX12_addHands_38 (by decide) ?_
              exact W.zret (v := 0) (ty := .boolean) hx hb hr rfl (fun t ht hW => ⟨⟨0, (), rfl, rfl, by rw [ht]; exact hP, va_K.moved hW.alike hK, hD⟩, hS.F ht⟩) hS.2.2 dX12_addHands_39
            · refine lv_goto (tgt := 55) hx hb dX12_addHands_23 (by decide) ?_
              refine lv_iinc (v := 6) (lv' := [(3, .int 6), (0, .ref (ad 0)), (1, .int p1), (2, .int p2)]) hx hb dX12_addHands_55 hl (k := 0) rfl (by decide) (by decide) rfl (fun ls hl => ?_)
              refine lv_goto (tgt := 9) hx hb dX12_addHands_58 (by decide) ?_
              refine lv_iload_n hx hb dX12_addHands_9 rfl (lv_at hl 0 rfl) ?_
              refine lv_bipush (v := 12) hx hb dX12_addHands_10 (by decide) ?_
              refine lv_icmp_ge (tgt := 61) hx hb dX12_addHands_12 (by decide) (fun z => absurd z (by decide)) (fun _ => ?_)
              refine lv_iload_n hx hb dX12_addHands_15 rfl (lv_at hl 2 rfl) ?_
              refine lv_iload_n hx hb dX12_addHands_16 rfl (lv_at hl 0 rfl) ?_
              refine lv_ishr hx hb dX12_addHands_17 ?_
              refine lv_iconst (v := 1) hx hb dX12_addHands_18 (by decide) ?_
              refine lv_iand hx hb dX12_addHands_19 ?_
              refine lv_if_ne (tgt := 26) hx hb dX12_addHands_20 (by decide) (fun c_14 => ?_) (fun c_14 => ?_)
              · refine lv_aload_n hx hb dX12_addHands_26 rfl (lv_at hl 1 rfl) ?_
                refine lv_iload_n hx hb dX12_addHands_27 rfl (lv_at hl 0 rfl) ?_
                refine jc_q (va_runV (As := [.int 6]) (rest := []) ⟨hx, hb, hml, hown, hts⟩ (kX12_livingHandAt_16 l dC dI _ ad ca) (cwV 1 hts (jgoodV m_356 m_357 m_358 m_210 m_359) rfl rfl rfl (by decide +kernel) ⟨Nat.le_of_ble_eq_true rfl, Nat.le_of_ble_eq_true rfl⟩) ⟨jw_blind, va_recv hK hP (ci := 12) (q0 := 0) rfl rfl, fun U hU hW => ⟨rfl, jw_of hU hW hP hK hD⟩⟩ rfl rfl hl.1 rfl (lv_room (Nat.le_of_ble_eq_true rfl)) dX12_addHands_28 ⟨Nat.le_of_ble_eq_true rfl, Nat.le_of_ble_eq_true rfl⟩) hP hS hA (fun r_15 H locs hw_15 hP hS => ?_)
                have hw_15 : none = r_15 := Eq.symm hw_15
                subst hw_15
                refine jt_q Value.null rfl ?_
                refine lv_astoreN (lv' := [(4, .null), (3, .int 6), (0, .ref (ad 0)), (1, .int p1), (2, .int p2)]) hx hb dX12_addHands_31 hl (by decide) rfl (fun ls hl => ?_)
                refine lv_aloadN hx hb dX12_addHands_33 (lv_at hl 0 rfl) ?_
                refine lv_ifnonnullN hx hb dX12_addHands_35 ?_
                refine lv_iconst (v := 0) hx hb dX12_addHands_38 (by decide) ?_
                exact W.zret (v := 0) (ty := .boolean) hx hb hr rfl (fun t ht hW => ⟨⟨0, (), rfl, rfl, by rw [ht]; exact hP, va_K.moved hW.alike hK, hD⟩, hS.F ht⟩) hS.2.2 dX12_addHands_39
              · refine lv_goto (tgt := 55) hx hb dX12_addHands_23 (by decide) ?_
                refine lv_iinc (v := 7) (lv' := [(3, .int 7), (0, .ref (ad 0)), (1, .int p1), (2, .int p2)]) hx hb dX12_addHands_55 hl (k := 0) rfl (by decide) (by decide) rfl (fun ls hl => ?_)
                refine lv_goto (tgt := 9) hx hb dX12_addHands_58 (by decide) ?_
                refine lv_iload_n hx hb dX12_addHands_9 rfl (lv_at hl 0 rfl) ?_
                refine lv_bipush (v := 12) hx hb dX12_addHands_10 (by decide) ?_
                refine lv_icmp_ge (tgt := 61) hx hb dX12_addHands_12 (by decide) (fun z => absurd z (by decide)) (fun _ => ?_)
                refine lv_iload_n hx hb dX12_addHands_15 rfl (lv_at hl 2 rfl) ?_
                refine lv_iload_n hx hb dX12_addHands_16 rfl (lv_at hl 0 rfl) ?_
                refine lv_ishr hx hb dX12_addHands_17 ?_
                refine lv_iconst (v := 1) hx hb dX12_addHands_18 (by decide) ?_
                refine lv_iand hx hb dX12_addHands_19 ?_
                refine lv_if_ne (tgt := 26) hx hb dX12_addHands_20 (by decide) (fun c_16 => ?_) (fun c_16 => ?_)
                · refine lv_aload_n hx hb dX12_addHands_26 rfl (lv_at hl 1 rfl) ?_
                  refine lv_iload_n hx hb dX12_addHands_27 rfl (lv_at hl 0 rfl) ?_
                  refine jc_q (va_runV (As := [.int 7]) (rest := []) ⟨hx, hb, hml, hown, hts⟩ (kX12_livingHandAt_18 l dC dI _ ad ca) (cwV 1 hts (jgoodV m_356 m_357 m_358 m_210 m_359) rfl rfl rfl (by decide +kernel) ⟨Nat.le_of_ble_eq_true rfl, Nat.le_of_ble_eq_true rfl⟩) ⟨jw_blind, va_recv hK hP (ci := 12) (q0 := 0) rfl rfl, fun U hU hW => ⟨rfl, jw_of hU hW hP hK hD⟩⟩ rfl rfl hl.1 rfl (lv_room (Nat.le_of_ble_eq_true rfl)) dX12_addHands_28 ⟨Nat.le_of_ble_eq_true rfl, Nat.le_of_ble_eq_true rfl⟩) hP hS hA (fun r_17 H locs hw_17 hP hS => ?_)
                  have hw_17 : none = r_17 := Eq.symm hw_17
                  subst hw_17
                  refine jt_q Value.null rfl ?_
                  refine lv_astoreN (lv' := [(4, .null), (3, .int 7), (0, .ref (ad 0)), (1, .int p1), (2, .int p2)]) hx hb dX12_addHands_31 hl (by decide) rfl (fun ls hl => ?_)
                  refine lv_aloadN hx hb dX12_addHands_33 (lv_at hl 0 rfl) ?_
                  refine lv_ifnonnullN hx hb dX12_addHands_35 ?_
                  refine lv_iconst (v := 0) hx hb dX12_addHands_38 (by decide) ?_
                  exact W.zret (v := 0) (ty := .boolean) hx hb hr rfl (fun t ht hW => ⟨⟨0, (), rfl, rfl, by rw [ht]; exact hP, va_K.moved hW.alike hK, hD⟩, hS.F ht⟩) hS.2.2 dX12_addHands_39
                · refine lv_goto (tgt := 55) hx hb dX12_addHands_23 (by decide) ?_
                  refine lv_iinc (v := 8) (lv' := [(3, .int 8), (0, .ref (ad 0)), (1, .int p1), (2, .int p2)]) hx hb dX12_addHands_55 hl (k := 0) rfl (by decide) (by decide) rfl (fun ls hl => ?_)
                  refine lv_goto (tgt := 9) hx hb dX12_addHands_58 (by decide) ?_
                  refine lv_iload_n hx hb dX12_addHands_9 rfl (lv_at hl 0 rfl) ?_
                  refine lv_bipush (v := 12) hx hb dX12_addHands_10 (by decide) ?_
                  refine lv_icmp_ge (tgt := 61) hx hb dX12_addHands_12 (by decide) (fun z => absurd z (by decide)) (fun _ => ?_)
                  refine lv_iload_n hx hb dX12_addHands_15 rfl (lv_at hl 2 rfl) ?_
                  refine lv_iload_n hx hb dX12_addHands_16 rfl (lv_at hl 0 rfl) ?_
                  refine lv_ishr hx hb dX12_addHands_17 ?_
                  refine lv_iconst (v := 1) hx hb dX12_addHands_18 (by decide) ?_
                  refine lv_iand hx hb dX12_addHands_19 ?_
                  refine lv_if_ne (tgt := 26) hx hb dX12_addHands_20 (by decide) (fun c_18 => ?_) (fun c_18 => ?_)
                  · refine lv_aload_n hx hb dX12_addHands_26 rfl (lv_at hl 1 rfl) ?_
                    refine lv_iload_n hx hb dX12_addHands_27 rfl (lv_at hl 0 rfl) ?_
                    refine jc_q (va_runV (As := [.int 8]) (rest := []) ⟨hx, hb, hml, hown, hts⟩ (kX12_livingHandAt_20 l dC dI _ ad ca) (cwV 1 hts (jgoodV m_356 m_357 m_358 m_210 m_359) rfl rfl rfl (by decide +kernel) ⟨Nat.le_of_ble_eq_true rfl, Nat.le_of_ble_eq_true rfl⟩) ⟨jw_blind, va_recv hK hP (ci := 12) (q0 := 0) rfl rfl, fun U hU hW => ⟨rfl, jw_of hU hW hP hK hD⟩⟩ rfl rfl hl.1 rfl (lv_room (Nat.le_of_ble_eq_true rfl)) dX12_addHands_28 ⟨Nat.le_of_ble_eq_true rfl, Nat.le_of_ble_eq_true rfl⟩) hP hS hA (fun r_19 H locs hw_19 hP hS => ?_)
                    have hw_19 : none = r_19 := Eq.symm hw_19
                    subst hw_19
                    refine jt_q Value.null rfl ?_
                    refine lv_astoreN (lv' := [(4, .null), (3, .int 8), (0, .ref (ad 0)), (1, .int p1), (2, .int p2)]) hx hb dX12_addHands_31 hl (by decide) rfl (fun ls hl => ?_)
                    refine lv_aloadN hx hb dX12_addHands_33 (lv_at hl 0 rfl) ?_
                    refine lv_ifnonnullN hx hb dX12_addHands_35 ?_
                    refine lv_iconst (v := 0) hx hb dX12_addHands_38 (by decide) ?_
                    exact W.zret (v := 0) (ty := .boolean) hx hb hr rfl (fun t ht hW => ⟨⟨0, (), rfl, rfl, by rw [ht]; exact hP, va_K.moved hW.alike hK, hD⟩, hS.F ht⟩) hS.2.2 dX12_addHands_39
                  · refine lv_goto (tgt := 55) hx hb dX12_addHands_23 (by decide) ?_
                    refine lv_iinc (v := 9) (lv' := [(3, .int 9), (0, .ref (ad 0)), (1, .int p1), (2, .int p2)]) hx hb dX12_addHands_55 hl (k := 0) rfl (by decide) (by decide) rfl (fun ls hl => ?_)
                    refine lv_goto (tgt := 9) hx hb dX12_addHands_58 (by decide) ?_
                    refine lv_iload_n hx hb dX12_addHands_9 rfl (lv_at hl 0 rfl) ?_
                    refine lv_bipush (v := 12) hx hb dX12_addHands_10 (by decide) ?_
                    refine lv_icmp_ge (tgt := 61) hx hb dX12_addHands_12 (by decide) (fun z => absurd z (by decide)) (fun _ => ?_)
                    refine lv_iload_n hx hb dX12_addHands_15 rfl (lv_at hl 2 rfl) ?_
                    refine lv_iload_n hx hb dX12_addHands_16 rfl (lv_at hl 0 rfl) ?_
                    refine lv_ishr hx hb dX12_addHands_17 ?_
                    refine lv_iconst (v := 1) hx hb dX12_addHands_18 (by decide) ?_
                    refine lv_iand hx hb dX12_addHands_19 ?_
                    refine lv_if_ne (tgt := 26) hx hb dX12_addHands_20 (by decide) (fun c_20 => ?_) (fun c_20 => ?_)
                    · refine lv_aload_n hx hb dX12_addHands_26 rfl (lv_at hl 1 rfl) ?_
                      refine lv_iload_n hx hb dX12_addHands_27 rfl (lv_at hl 0 rfl) ?_
                      refine jc_q (va_runV (As := [.int 9]) (rest := []) ⟨hx, hb, hml, hown, hts⟩ (kX12_livingHandAt_22 l dC dI _ ad ca) (cwV 1 hts (jgoodV m_356 m_357 m_358 m_210 m_359) rfl rfl rfl (by decide +kernel) ⟨Nat.le_of_ble_eq_true rfl, Nat.le_of_ble_eq_true rfl⟩) ⟨jw_blind, va_recv hK hP (ci := 12) (q0 := 0) rfl rfl, fun U hU hW => ⟨rfl, jw_of hU hW hP hK hD⟩⟩ rfl rfl hl.1 rfl (lv_room (Nat.le_of_ble_eq_true rfl)) dX12_addHands_28 ⟨Nat.le_of_ble_eq_true rfl, Nat.le_of_ble_eq_true rfl⟩) hP hS hA (fun r_21 H locs hw_21 hP hS => ?_)
                      have hw_21 : none = r_21 := Eq.symm hw_21
                      subst hw_21
                      refine jt_q Value.null rfl ?_
                      refine lv_astoreN (lv' := [(4, .null), (3, .int 9), (0, .ref (ad 0)), (1, .int p1), (2, .int p2)]) hx hb dX12_addHands_31 hl (by decide) rfl (fun ls hl => ?_)
                      refine lv_aloadN hx hb dX12_addHands_33 (lv_at hl 0 rfl) ?_
                      refine lv_ifnonnullN hx hb dX12_addHands_35 ?_
                      refine lv_iconst (v := 0) hx hb dX12_addHands_38 (by decide) ?_
                      exact W.zret (v := 0) (ty := .boolean) hx hb hr rfl (fun t ht hW => ⟨⟨0, (), rfl, rfl, by rw [ht]; exact hP, va_K.moved hW.alike hK, hD⟩, hS.F ht⟩) hS.2.2 dX12_addHands_39
                    · refine lv_goto (tgt := 55) hx hb dX12_addHands_23 (by decide) ?_
                      refine lv_iinc (v := 10) (lv' := [(3, .int 10), (0, .ref (ad 0)), (1, .int p1), (2, .int p2)]) hx hb dX12_addHands_55 hl (k := 0) rfl (by decide) (by decide) rfl (fun ls hl => ?_)
                      refine lv_goto (tgt := 9) hx hb dX12_addHands_58 (by decide) ?_
                      refine lv_iload_n hx hb dX12_addHands_9 rfl (lv_at hl 0 rfl) ?_
                      refine lv_bipush (v := 12) hx hb dX12_addHands_10 (by decide) ?_
                      refine lv_icmp_ge (tgt := 61) hx hb dX12_addHands_12 (by decide) (fun z => absurd z (by decide)) (fun _ => ?_)
                      refine lv_iload_n hx hb dX12_addHands_15 rfl (lv_at hl 2 rfl) ?_
                      refine lv_iload_n hx hb dX12_addHands_16 rfl (lv_at hl 0 rfl) ?_
                      refine lv_ishr hx hb dX12_addHands_17 ?_
                      refine lv_iconst (v := 1) hx hb dX12_addHands_18 (by decide) ?_
                      refine lv_iand hx hb dX12_addHands_19 ?_
                      refine lv_if_ne (tgt := 26) hx hb dX12_addHands_20 (by decide) (fun c_22 => ?_) (fun c_22 => ?_)
                      · refine lv_aload_n hx hb dX12_addHands_26 rfl (lv_at hl 1 rfl) ?_
                        refine lv_iload_n hx hb dX12_addHands_27 rfl (lv_at hl 0 rfl) ?_
                        refine jc_q (va_runV (As := [.int 10]) (rest := []) ⟨hx, hb, hml, hown, hts⟩ (kX12_livingHandAt_24 l dC dI _ ad ca) (cwV 1 hts (jgoodV m_356 m_357 m_358 m_210 m_359) rfl rfl rfl (by decide +kernel) ⟨Nat.le_of_ble_eq_true rfl, Nat.le_of_ble_eq_true rfl⟩) ⟨jw_blind, va_recv hK hP (ci := 12) (q0 := 0) rfl rfl, fun U hU hW => ⟨rfl, jw_of hU hW hP hK hD⟩⟩ rfl rfl hl.1 rfl (lv_room (Nat.le_of_ble_eq_true rfl)) dX12_addHands_28 ⟨Nat.le_of_ble_eq_true rfl, Nat.le_of_ble_eq_true rfl⟩) hP hS hA (fun r_23 H locs hw_23 hP hS => ?_)
                        have hw_23 : none = r_23 := Eq.symm hw_23
                        subst hw_23
                        refine jt_q Value.null rfl ?_
                        refine lv_astoreN (lv' := [(4, .null), (3, .int 10), (0, .ref (ad 0)), (1, .int p1), (2, .int p2)]) hx hb dX12_addHands_31 hl (by decide) rfl (fun ls hl => ?_)
                        refine lv_aloadN hx hb dX12_addHands_33 (lv_at hl 0 rfl) ?_
                        refine lv_ifnonnullN hx hb dX12_addHands_35 ?_
                        refine lv_iconst (v := 0) hx hb dX12_addHands_38 (by decide) ?_
                        exact W.zret (v := 0) (ty := .boolean) hx hb hr rfl (fun t ht hW => ⟨⟨0, (), rfl, rfl, by rw [ht]; exact hP, va_K.moved hW.alike hK, hD⟩, hS.F ht⟩) hS.2.2 dX12_addHands_39
                      · refine lv_goto (tgt := 55) hx hb dX12_addHands_23 (by decide) ?_
                        refine lv_iinc (v := 11) (lv' := [(3, .int 11), (0, .ref (ad 0)), (1, .int p1), (2, .int p2)]) hx hb dX12_addHands_55 hl (k := 0) rfl (by decide) (by decide) rfl (fun ls hl => ?_)
                        refine lv_goto (tgt := 9) hx hb dX12_addHands_58 (by decide) ?_
                        refine lv_iload_n hx hb dX12_addHands_9 rfl (lv_at hl 0 rfl) ?_
                        refine lv_bipush (v := 12) hx hb dX12_addHands_10 (by decide) ?_
                        refine lv_icmp_ge (tgt := 61) hx hb dX12_addHands_12 (by decide) (fun z => absurd z (by decide)) (fun _ => ?_)
                        refine lv_iload_n hx hb dX12_addHands_15 rfl (lv_at hl 2 rfl) ?_
                        refine lv_iload_n hx hb dX12_addHands_16 rfl (lv_at hl 0 rfl) ?_
                        refine lv_ishr hx hb dX12_addHands_17 ?_
                        refine lv_iconst (v := 1) hx hb dX12_addHands_18 (by decide) ?_
                        refine lv_iand hx hb dX12_addHands_19 ?_
                        refine lv_if_ne (tgt := 26) hx hb dX12_addHands_20 (by decide) (fun c_24 => ?_) (fun c_24 => ?_)
                        · refine lv_aload_n hx hb dX12_addHands_26 rfl (lv_at hl 1 rfl) ?_
                          refine lv_iload_n hx hb dX12_addHands_27 rfl (lv_at hl 0 rfl) ?_
                          refine jc_q (va_runV (As := [.int 11]) (rest := []) ⟨hx, hb, hml, hown, hts⟩ (kX12_livingHandAt_26 l dC dI _ ad ca) (cwV 1 hts (jgoodV m_356 m_357 m_358 m_210 m_359) rfl rfl rfl (by decide +kernel) ⟨Nat.le_of_ble_eq_true rfl, Nat.le_of_ble_eq_true rfl⟩) ⟨jw_blind, va_recv hK hP (ci := 12) (q0 := 0) rfl rfl, fun U hU hW => ⟨rfl, jw_of hU hW hP hK hD⟩⟩ rfl rfl hl.1 rfl (lv_room (Nat.le_of_ble_eq_true rfl)) dX12_addHands_28 ⟨Nat.le_of_ble_eq_true rfl, Nat.le_of_ble_eq_true rfl⟩) hP hS hA (fun r_25 H locs hw_25 hP hS => ?_)
                          have hw_25 : none = r_25 := Eq.symm hw_25
                          subst hw_25
                          refine jt_q Value.null rfl ?_
                          refine lv_astoreN (lv' := [(4, .null), (3, .int 11), (0, .ref (ad 0)), (1, .int p1), (2, .int p2)]) hx hb dX12_addHands_31 hl (by decide) rfl (fun ls hl => ?_)
                          refine lv_aloadN hx hb dX12_addHands_33 (lv_at hl 0 rfl) ?_
                          refine lv_ifnonnullN hx hb dX12_addHands_35 ?_
                          refine lv_iconst (v := 0) hx hb dX12_addHands_38 (by decide) ?_
                          exact W.zret (v := 0) (ty := .boolean) hx hb hr rfl (fun t ht hW => ⟨⟨0, (), rfl, rfl, by rw [ht]; exact hP, va_K.moved hW.alike hK, hD⟩, hS.F ht⟩) hS.2.2 dX12_addHands_39
                        · refine lv_goto (tgt := 55) hx hb dX12_addHands_23 (by decide) ?_
                          refine lv_iinc (v := 12) (lv' := [(3, .int 12), (0, .ref (ad 0)), (1, .int p1), (2, .int p2)]) hx hb dX12_addHands_55 hl (k := 0) rfl (by decide) (by decide) rfl (fun ls hl => ?_)
                          refine lv_goto (tgt := 9) hx hb dX12_addHands_58 (by decide) ?_
                          refine lv_iload_n hx hb dX12_addHands_9 rfl (lv_at hl 0 rfl) ?_
                          refine lv_bipush (v := 12) hx hb dX12_addHands_10 (by decide) ?_
                          refine lv_icmp_ge (tgt := 61) hx hb dX12_addHands_12 (by decide) (fun _ => ?_) (fun z => absurd (by decide) z)
                          exact (jbits12 (jb_ge fl1 (by decide)) (jb_le fh1 (by decide)) c_2 c_4 c_6 c_8 c_10 c_12 c_14 c_16 c_18 c_20 c_22 c_24).elim
