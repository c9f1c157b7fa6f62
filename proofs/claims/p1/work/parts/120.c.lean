set_option maxHeartbeats 500000 in
set_option maxRecDepth 100000 in
theorem tX12_promise (l : Launch) (dC : Nat → ClassId) (dI : Nat → Nat → Nat) (sz : Nat) (ad : Nat → Nat) (ca : Nat → ClassId) (p1 : Int32) : Met l yX12_promise (jk yX12_promise cX12_promise 4 (some .int)) ({ frames := 2, cells := 0, slots := 0, locals := 44 }) (va_Pc [.ref (ad 0), .int p1] (jw_P (dC, dI) (xW ad ca) (xT ca) sz)) (va_Qi (fun (r : Int32) (_ : Unit) => (r = (-1))) (fun _ _ => True) (va_A [] sz)) 0 0 (va_A [] sz) := by
  refine Met.ofW (cc := cX12_promise) (maxL := 4) (ret := (some .int)) (by decide) rfl ?_
  intro p e s m args below meth c s₁ B hml hv
  obtain ⟨rfl, hsz, hP, hK, hD0⟩ := hv
  have hx := B.exec
  have hb := B.bytes
  have hr := B.returns
  have hts := atoms_spec (ws := (jk yX12_promise cX12_promise 4 (some .int))) B.pre
  have hown : s.vm.findClass RX12 = some m.cls := findClass_of_methodNamed B.named
  have hlocks := B.notSynchronized
  subst hsz
  have hD := hD0
  generalize hAe : (va_A [] s.heap.size) = A
  have hA : ∀ q : Nat, s.heap.size ≤ q → A q := fun q h => by rw [← hAe]; exact Or.inr h
  have hS : va_S A s.heap s.heap [] := va_S.rf
  have hP : va_P (dC, dI) vwCl (xW ad ca) s.heap := hP
  have hl := lv_entry ([.ref (ad 0), .int p1]) (n := 4) (Nat.le_of_ble_eq_true rfl)
  rw [lg_entry_eq]
  generalize (lg_sl ([.ref (ad 0), .int p1]) ++ List.replicate (4 - (lg_sl ([.ref (ad 0), .int p1])).length) Slot.unset).toArray = ls at hl ⊢
  have hl : lv_has ls 4 [(0, .ref (ad 0)), (1, .int p1)] := hl
  refine lv_aload_n hx hb dX12_promise_0 rfl (lv_at hl 0 rfl) ?_
  refine lv_iload_n hx hb dX12_promise_1 rfl (lv_at hl 1 rfl) ?_
  refine lv_iconst (v := 1) hx hb dX12_promise_2 (by decide) ?_
  refine jc_q (va_runV (As := [.int p1, .int 1]) (rest := []) ⟨hx, hb, hml, hown, hts⟩ (kX12_entryOfKind_2 l dC dI _ ad ca p1) (cwV 2 hts (jgoodV m_324 m_325 m_326 m_210 m_327) rfl rfl rfl (by decide +kernel) ⟨Nat.le_of_ble_eq_true rfl, Nat.le_of_ble_eq_true rfl⟩) ⟨jw_blind, va_recv hK hP (ci := 12) (q0 := 0) rfl rfl, fun U hU hW => ⟨rfl, jw_of hU hW hP hK hD⟩⟩ rfl rfl hl.1 rfl (lv_room (Nat.le_of_ble_eq_true rfl)) dX12_promise_3 ⟨Nat.le_of_ble_eq_true rfl, Nat.le_of_ble_eq_true rfl⟩) hP hS hA (fun r_1 H locs hw_1 hP hS => ?_)
  have hw_1 : none = r_1 := Eq.symm hw_1
  subst hw_1
  refine jt_q Value.null rfl ?_
  refine lv_astore_nN (lv' := [(2, .null), (0, .ref (ad 0)), (1, .int p1)]) hx hb dX12_promise_6 rfl hl (by decide) rfl (fun ls hl => ?_)
  refine lv_aload_nN hx hb dX12_promise_7 rfl (lv_at hl 0 rfl) ?_
  refine lv_ifnullN (tgt := 19) hx hb dX12_promise_8 (by decide) ?_
  refine lv_iconst (v := (-1)) hx hb dX12_promise_19 (by decide) ?_
  exact W.iret (v := (-1)) hx hb hr (fun t ht hW => ⟨⟨(-1), (), rfl, rfl, trivial⟩, hS.F ht⟩) hS.2.2 dX12_promise_20
set_option maxHeartbeats 500000 in
set_option maxRecDepth 100000 in
theorem tX12_ends (l : Launch) (dC : Nat → ClassId) (dI : Nat → Nat → Nat) (sz : Nat) (ad : Nat → Nat) (ca : Nat → ClassId) (p1 : Int32) : Met l yX12_ends (jk yX12_ends cX12_ends 4 (some .int)) ({ frames := 2, cells := 0, slots := 0, locals := 44 }) (va_Pc [.ref (ad 0), .int p1] (jw_P (dC, dI) (xW ad ca) (xT ca) sz)) (va_Qi (fun (r : Int32) (_ : Unit) => (r = (-1))) (fun _ _ => True) (va_A [] sz)) 0 0 (va_A [] sz) := by
  refine Met.ofW (cc := cX12_ends) (maxL := 4) (ret := (some .int)) (by decide) rfl ?_
  intro p e s m args below meth c s₁ B hml hv
  obtain ⟨rfl, hsz, hP, hK, hD0⟩ := hv
  have hx := B.exec
  have hb := B.bytes
  have hr := B.returns
  have hts := atoms_spec (ws := (jk yX12_ends cX12_ends 4 (some .int))) B.pre
  have hown : s.vm.findClass RX12 = some m.cls := findClass_of_methodNamed B.named
  have hlocks := B.notSynchronized
  subst hsz
  have hD := hD0
  generalize hAe : (va_A [] s.heap.size) = A
  have hA : ∀ q : Nat, s.heap.size ≤ q → A q := fun q h => by rw [← hAe]; exact Or.inr h
  have hS : va_S A s.heap s.heap [] := va_S.rf
  have hP : va_P (dC, dI) vwCl (xW ad ca) s.heap := hP
  have hl := lv_entry ([.ref (ad 0), .int p1]) (n := 4) (Nat.le_of_ble_eq_true rfl)
  rw [lg_entry_eq]
  generalize (lg_sl ([.ref (ad 0), .int p1]) ++ List.replicate (4 - (lg_sl ([.ref (ad 0), .int p1])).length) Slot.unset).toArray = ls at hl ⊢
  have hl : lv_has ls 4 [(0, .ref (ad 0)), (1, .int p1)] := hl
  refine lv_aload_n hx hb dX12_ends_0 rfl (lv_at hl 0 rfl) ?_
  refine lv_iload_n hx hb dX12_ends_1 rfl (lv_at hl 1 rfl) ?_
  refine lv_iconst (v := 1) hx hb dX12_ends_2 (by decide) ?_
  refine jc_q (va_runV (As := [.int p1, .int 1]) (rest := []) ⟨hx, hb, hml, hown, hts⟩ (kX12_entryOfKind_2 l dC dI _ ad ca p1) (cwV 2 hts (jgoodV m_324 m_325 m_326 m_210 m_327) rfl rfl rfl (by decide +kernel) ⟨Nat.le_of_ble_eq_true rfl, Nat.le_of_ble_eq_true rfl⟩) ⟨jw_blind, va_recv hK hP (ci := 12) (q0 := 0) rfl rfl, fun U hU hW => ⟨rfl, jw_of hU hW hP hK hD⟩⟩ rfl rfl hl.1 rfl (lv_room (Nat.le_of_ble_eq_true rfl)) dX12_ends_3 ⟨Nat.le_of_ble_eq_true rfl, Nat.le_of_ble_eq_true rfl⟩) hP hS hA (fun r_1 H locs hw_1 hP hS => ?_)
  have hw_1 : none = r_1 := Eq.symm hw_1
  subst hw_1
  refine jt_q Value.null rfl ?_
  refine lv_astore_nN (lv' := [(2, .null), (0, .ref (ad 0)), (1, .int p1)]) hx hb dX12_ends_6 rfl hl (by decide) rfl (fun ls hl => ?_)
  refine lv_aload_nN hx hb dX12_ends_7 rfl (lv_at hl 0 rfl) ?_
  refine lv_ifnonnullN hx hb dX12_ends_8 ?_
  refine lv_null hx hb dX12_ends_11 ?_
  refine lv_goto (tgt := 20) hx hb dX12_ends_12 (by decide) ?_
  refine lv_astore_nN (lv' := [(3, .null), (2, .null), (0, .ref (ad 0)), (1, .int p1)]) hx hb dX12_ends_20 rfl hl (by decide) rfl (fun ls hl => ?_)
  refine lv_aload_nN hx hb dX12_ends_21 rfl (lv_at hl 0 rfl) ?_
  refine lv_ifnonnullN hx hb dX12_ends_22 ?_
  refine lv_iconst (v := (-1)) hx hb dX12_ends_25 (by decide) ?_
  refine lv_goto (tgt := 33) hx hb dX12_ends_26 (by decide) ?_
  exact W.iret (v := (-1)) hx hb hr (fun t ht hW => ⟨⟨(-1), (), rfl, rfl, trivial⟩, hS.F ht⟩) hS.2.2 dX12_ends_33
set_option maxHeartbeats 500000 in
set_option maxRecDepth 100000 in
theorem tX12_promised (l : Launch) (dC : Nat → ClassId) (dI : Nat → Nat → Nat) (sz : Nat) (ad : Nat → Nat) (ca : Nat → ClassId) (p1 : Int32) : Met l yX12_promised (jk yX12_promised cX12_promised 6 (some .int)) ({ frames := 1, cells := 0, slots := 0, locals := 21 }) (va_Pc [.ref (ad 0), .int p1] (jw_P (dC, dI) (xW ad ca) (xT ca) sz)) (va_Qi (fun (r : Int32) (_ : Unit) => (r = (-1))) (fun _ _ => True) (va_A [] sz)) 0 0 (va_A [] sz) := by
  refine Met.ofW (cc := cX12_promised) (maxL := 6) (ret := (some .int)) (by decide) rfl ?_
  intro p e s m args below meth c s₁ B hml hv
  obtain ⟨rfl, hsz, hP, hK, hD0⟩ := hv
  have hx := B.exec
  have hb := B.bytes
  have hr := B.returns
  have hts := atoms_spec (ws := (jk yX12_promised cX12_promised 6 (some .int))) B.pre
  have hown : s.vm.findClass RX12 = some m.cls := findClass_of_methodNamed B.named
  have hlocks := B.notSynchronized
  subst hsz
  have hD := hD0
  generalize hAe : (va_A [] s.heap.size) = A
  have hA : ∀ q : Nat, s.heap.size ≤ q → A q := fun q h => by rw [← hAe]; exact Or.inr h
  have hS : va_S A s.heap s.heap [] := va_S.rf
  have hP : va_P (dC, dI) vwCl (xW ad ca) s.heap := hP
  have hl := lv_entry ([.ref (ad 0), .int p1]) (n := 6) (Nat.le_of_ble_eq_true rfl)
  rw [lg_entry_eq]
  generalize (lg_sl ([.ref (ad 0), .int p1]) ++ List.replicate (6 - (lg_sl ([.ref (ad 0), .int p1])).length) Slot.unset).toArray = ls at hl ⊢
  have hl : lv_has ls 6 [(0, .ref (ad 0)), (1, .int p1)] := hl
  refine lv_aload_n hx hb dX12_promised_0 rfl (lv_at hl 0 rfl) ?_
  refine lv_iload_n hx hb dX12_promised_1 rfl (lv_at hl 1 rfl) ?_
  refine jc_q (va_runV (As := [.int p1]) (rest := []) ⟨hx, hb, hml, hown, hts⟩ (kX12_handAt_2 l dC dI _ ad ca p1) (cwV 1 hts (jgoodV m_352 m_353 m_354 m_210 m_355) rfl rfl rfl (by decide +kernel) ⟨Nat.le_of_ble_eq_true rfl, Nat.le_of_ble_eq_true rfl⟩) ⟨jw_blind, va_recv hK hP (ci := 12) (q0 := 0) rfl rfl, fun U hU hW => ⟨rfl, jw_of hU hW hP hK hD⟩⟩ rfl rfl hl.1 rfl (lv_room (Nat.le_of_ble_eq_true rfl)) dX12_promised_2 ⟨Nat.le_of_ble_eq_true rfl, Nat.le_of_ble_eq_true rfl⟩) hP hS hA (fun r_1 H locs hw_1 hP hS => ?_)
  have hw_1 : none = r_1 := Eq.symm hw_1
  subst hw_1
  refine jt_q Value.null rfl ?_
  refine lv_ifnonnullN hx hb dX12_promised_5 ?_
  refine lv_iconst (v := (-1)) hx hb dX12_promised_8 (by decide) ?_
  exact W.iret (v := (-1)) hx hb hr (fun t ht hW => ⟨⟨(-1), (), rfl, rfl, trivial⟩, hS.F ht⟩) hS.2.2 dX12_promised_9
set_option maxHeartbeats 500000 in
set_option maxRecDepth 100000 in
theorem kX12_isSubscriber_1 (l : Launch) (dC : Nat → ClassId) (dI : Nat → Nat → Nat) (sz : Nat) (h0 : Nat) (p1 : Int32) : Met l yX12_isSubscriber (jk yX12_isSubscriber cX12_isSubscriber 2 (some .boolean)) ({ frames := 0, cells := 0, slots := 0, locals := 0 }) (va_Pc [.ref h0, .int p1] (fun U => U.heap.size = sz)) (va_Qi (fun (r : Int32) (_ : Unit) => (p1 < 0 ∧ r = 0) ∨ (¬ (p1 < 0) ∧ 10 ≤ p1 ∧ r = 0) ∨ (¬ (p1 < 0) ∧ ¬ (10 ≤ p1) ∧ r = 1)) (fun _ _ => True) (va_A [] sz)) 0 0 (va_A [] sz) := by
  refine Met.ofW (cc := cX12_isSubscriber) (maxL := 2) (ret := (some .boolean)) (by decide) rfl ?_
  intro p e s m args below meth c s₁ B hml hv
  obtain ⟨rfl, hsz⟩ := hv
  have hx := B.exec
  have hb := B.bytes
  have hr := B.returns
  have hts := atoms_spec (ws := (jk yX12_isSubscriber cX12_isSubscriber 2 (some .boolean))) B.pre
  have hown : s.vm.findClass RX12 = some m.cls := findClass_of_methodNamed B.named
  have hlocks := B.notSynchronized
  subst hsz
  have hP : va_P (dC, dI) vwCl [] s.heap := fun k q h => by simp at h
  generalize hAe : (va_A [] s.heap.size) = A
  have hA : ∀ q : Nat, s.heap.size ≤ q → A q := fun q h => by rw [← hAe]; exact Or.inr h
  have hS : va_S A s.heap s.heap [] := va_S.rf
  have hl := lv_entry ([.ref h0, .int p1]) (n := 2) (Nat.le_of_ble_eq_true rfl)
  rw [lg_entry_eq]
  generalize (lg_sl ([.ref h0, .int p1]) ++ List.replicate (2 - (lg_sl ([.ref h0, .int p1])).length) Slot.unset).toArray = ls at hl ⊢
  have hl : lv_has ls 2 [(0, .ref h0), (1, .int p1)] := hl
  refine lv_iload_n hx hb dX12_isSubscriber_0 rfl (lv_at hl 1 rfl) ?_
  refine lv_if_lt (tgt := 14) hx hb dX12_isSubscriber_1 (by decide) (fun c_1 => ?_) (fun c_1 => ?_)
  · refine lv_iconst (v := 0) hx hb dX12_isSubscriber_14 (by decide) ?_
    exact W.zret (v := 0) (ty := .boolean) hx hb hr rfl (fun t ht hW => ⟨⟨0, (), rfl, (Or.inl ⟨c_1, rfl⟩), trivial⟩, hS.F ht⟩) hS.2.2 dX12_isSubscriber_15
  · refine lv_iload_n hx hb dX12_isSubscriber_4 rfl (lv_at hl 1 rfl) ?_
    refine lv_bipush (v := 10) hx hb dX12_isSubscriber_5 (by decide) ?_
    refine lv_icmp_ge (tgt := 14) hx hb dX12_isSubscriber_7 (by decide) (fun c_2 => ?_) (fun c_2 => ?_)
    · refine lv_iconst (v := 0) hx hb dX12_isSubscriber_14 (by decide) ?_
      exact W.zret (v := 0) (ty := .boolean) hx hb hr rfl (fun t ht hW => ⟨⟨0, (), rfl, (Or.inr (Or.inl ⟨c_1, c_2, rfl⟩)), trivial⟩, hS.F ht⟩) hS.2.2 dX12_isSubscriber_15
    · refine lv_iconst (v := 1) hx hb dX12_isSubscriber_10 (by decide) ?_
      refine lv_goto (tgt := 15) hx hb dX12_isSubscriber_11 (by decide) ?_
      exact W.zret (v := 1) (ty := .boolean) hx hb hr rfl (fun t ht hW => ⟨⟨1, (), rfl, (Or.inr (Or.inr ⟨c_1, c_2, rfl⟩)), trivial⟩, hS.F ht⟩) hS.2.2 dX12_isSubscriber_15
theorem s_tX12_subscribe_0 {p1 p2 p3 : Int32} (c_2 : p1 < 0) : 0 = sp_subscribe p1 p2 p3 := by
  unfold sp_subscribe
  have g0 : p1.toInt < 0 := ji_lt.mp c_2
  split <;> first | rfl | (exfalso; omega)
theorem s_tX12_subscribe_1 {p1 p2 p3 : Int32} (c_3 : ¬ (p1 < 0)) (c_4 : 10 ≤ p1) : 0 = sp_subscribe p1 p2 p3 := by
  unfold sp_subscribe
  have g0 : ¬ (p1.toInt < 0) := fun z => c_3 (ji_lt.mpr z)
  have g1 : 10 ≤ p1.toInt := ji_le.mp c_4
  split <;> first | rfl | (exfalso; omega)
theorem s_tX12_subscribe_2 {p1 p2 p3 : Int32} (c_5 : ¬ (p1 < 0)) (c_6 : ¬ (10 ≤ p1)) (c_8 : p2 < 0) : 0 = sp_subscribe p1 p2 p3 := by
  unfold sp_subscribe
  have g0 : ¬ (p1.toInt < 0) := fun z => c_5 (ji_lt.mpr z)
  have g1 : ¬ (10 ≤ p1.toInt) := fun z => c_6 (ji_le.mpr z)
  have g2 : p2.toInt < 0 := ji_lt.mp c_8
  split <;> first | rfl | (exfalso; omega)
theorem s_tX12_subscribe_3 {p1 p2 p3 : Int32} (c_5 : ¬ (p1 < 0)) (c_6 : ¬ (10 ≤ p1)) (c_9 : ¬ (p2 < 0)) (c_10 : 6 ≤ p2) : 0 = sp_subscribe p1 p2 p3 := by
  unfold sp_subscribe
  have g0 : ¬ (p1.toInt < 0) := fun z => c_5 (ji_lt.mpr z)
  have g1 : ¬ (10 ≤ p1.toInt) := fun z => c_6 (ji_le.mpr z)
  have g2 : ¬ (p2.toInt < 0) := fun z => c_9 (ji_lt.mpr z)
  have g3 : 6 ≤ p2.toInt := ji_le.mp c_10
  split <;> first | rfl | (exfalso; omega)
theorem s_tX12_subscribe_4 {p1 p2 p3 : Int32} (c_5 : ¬ (p1 < 0)) (c_6 : ¬ (10 ≤ p1)) (c_11 : ¬ (p2 < 0)) (c_12 : ¬ (6 ≤ p2)) (c_13 : p3 < 1) : 0 = sp_subscribe p1 p2 p3 := by
  unfold sp_subscribe
  have g0 : ¬ (p1.toInt < 0) := fun z => c_5 (ji_lt.mpr z)
  have g1 : ¬ (10 ≤ p1.toInt) := fun z => c_6 (ji_le.mpr z)
  have g2 : ¬ (p2.toInt < 0) := fun z => c_11 (ji_lt.mpr z)
  have g3 : ¬ (6 ≤ p2.toInt) := fun z => c_12 (ji_le.mpr z)
  have g4 : p3.toInt < 1 := ji_lt.mp c_13
  split <;> first | rfl | (exfalso; omega)
theorem s_tX12_subscribe_5 {p1 p2 p3 : Int32} (c_5 : ¬ (p1 < 0)) (c_6 : ¬ (10 ≤ p1)) (c_11 : ¬ (p2 < 0)) (c_12 : ¬ (6 ≤ p2)) (c_13 : ¬ (p3 < 1)) (c_14 : 999 < p3) : 0 = sp_subscribe p1 p2 p3 := by
  unfold sp_subscribe
  have g0 : ¬ (p1.toInt < 0) := fun z => c_5 (ji_lt.mpr z)
  have g1 : ¬ (10 ≤ p1.toInt) := fun z => c_6 (ji_le.mpr z)
  have g2 : ¬ (p2.toInt < 0) := fun z => c_11 (ji_lt.mpr z)
  have g3 : ¬ (6 ≤ p2.toInt) := fun z => c_12 (ji_le.mpr z)
  have g4 : ¬ (p3.toInt < 1) := fun z => c_13 (ji_lt.mpr z)
  have g5 : 999 < p3.toInt := ji_lt.mp c_14
  split <;> first | rfl | (exfalso; omega)
theorem s_tX12_subscribe_6 {p1 p2 p3 : Int32} (c_5 : ¬ (p1 < 0)) (c_6 : ¬ (10 ≤ p1)) (c_11 : ¬ (p2 < 0)) (c_12 : ¬ (6 ≤ p2)) (c_13 : ¬ (p3 < 1)) (c_14 : ¬ (999 < p3)) : 1 = sp_subscribe p1 p2 p3 := by
  unfold sp_subscribe
  have g0 : ¬ (p1.toInt < 0) := fun z => c_5 (ji_lt.mpr z)
  have g1 : ¬ (10 ≤ p1.toInt) := fun z => c_6 (ji_le.mpr z)
  have g2 : ¬ (p2.toInt < 0) := fun z => c_11 (ji_lt.mpr z)
  have g3 : ¬ (6 ≤ p2.toInt) := fun z => c_12 (ji_le.mpr z)
  have g4 : ¬ (p3.toInt < 1) := fun z => c_13 (ji_lt.mpr z)
  have g5 : ¬ (999 < p3.toInt) := fun z => c_14 (ji_lt.mpr z)
  split <;> first | rfl | (exfalso; omega)
set_option maxHeartbeats 500000 in
set_option maxRecDepth 100000 in
theorem tX12_subscribe (l : Launch) (dC : Nat → ClassId) (dI : Nat → Nat → Nat) (sz : Nat) (ad : Nat → Nat) (ca : Nat → ClassId) (p1 : Int32) (p2 : Int32) (p3 : Int32) : Met l yX12_subscribe (jk yX12_subscribe cX12_subscribe 4 (some .boolean)) ({ frames := 1, cells := 0, slots := 0, locals := 21 }) (va_Pc [.ref (ad 0), .int p1, .int p2, .int p3] (jw_P (dC, dI) (xW ad ca) (xT ca) sz)) (va_Qi (fun (r : Int32) (_ : Unit) => r = sp_subscribe p1 p2 p3) (fun _ _ => True) (va_A (xW ad ca) sz)) 0 0 (va_A (xW ad ca) sz) := by
  refine Met.ofW (cc := cX12_subscribe) (maxL := 4) (ret := (some .boolean)) (by decide) rfl ?_
  intro p e s m args below meth c s₁ B hml hv
  obtain ⟨rfl, hsz, hP, hK, hD0⟩ := hv
  have hx := B.exec
  have hb := B.bytes
  have hr := B.returns
  have hts := atoms_spec (ws := (jk yX12_subscribe cX12_subscribe 4 (some .boolean))) B.pre
  have hown : s.vm.findClass RX12 = some m.cls := findClass_of_methodNamed B.named
  have hlocks := B.notSynchronized
  subst hsz
  have hD := hD0.self (sz := s.heap.size)
  generalize hAe : (va_A (xW ad ca) s.heap.size) = A at hD ⊢
  have hA : ∀ q : Nat, s.heap.size ≤ q → A q := fun q h => by rw [← hAe]; exact Or.inr h
  have hS : va_S A s.heap s.heap [] := va_S.rf
  have hP : va_P (dC, dI) vwCl (xW ad ca) s.heap := hP
  have hl := lv_entry ([.ref (ad 0), .int p1, .int p2, .int p3]) (n := 4) (Nat.le_of_ble_eq_true rfl)
  rw [lg_entry_eq]
  generalize (lg_sl ([.ref (ad 0), .int p1, .int p2, .int p3]) ++ List.replicate (4 - (lg_sl ([.ref (ad 0), .int p1, .int p2, .int p3])).length) Slot.unset).toArray = ls at hl ⊢
  have hl : lv_has ls 4 [(0, .ref (ad 0)), (1, .int p1), (2, .int p2), (3, .int p3)] := hl
  refine lv_aload_n hx hb dX12_subscribe_0 rfl (lv_at hl 0 rfl) ?_
  refine lv_iload_n hx hb dX12_subscribe_1 rfl (lv_at hl 1 rfl) ?_
  refine jc_i (va_runV (As := [.int p1]) (rest := []) ⟨hx, hb, hml, hown, hts⟩ (kX12_isSubscriber_1 l dC dI _ (ad 0) p1) (cwV 1 hts (jgoodV m_412 m_413 m_414 m_210 m_415) rfl rfl rfl (by decide +kernel) ⟨Nat.le_of_ble_eq_true rfl, Nat.le_of_ble_eq_true rfl⟩) ⟨jw_blind0, va_recv hK hP (ci := 12) (q0 := 0) rfl rfl, fun U hU hW => ⟨rfl, congrArg Array.size hU⟩⟩ rfl rfl hl.1 rfl (lv_room (Nat.le_of_ble_eq_true rfl)) dX12_subscribe_2 ⟨Nat.le_of_ble_eq_true rfl, Nat.le_of_ble_eq_true rfl⟩) hP hS hA (fun r_1 H locs hw_1 hP hS => ?_)
  rcases (show (p1 < 0 ∧ r_1 = 0) ∨ (¬ (p1 < 0) ∧ 10 ≤ p1 ∧ r_1 = 0) ∨ (¬ (p1 < 0) ∧ ¬ (10 ≤ p1) ∧ r_1 = 1) from hw_1) with ⟨c_2, e_2_0⟩ | ⟨c_3, c_4, e_4_1⟩ | ⟨c_5, c_6, e_6_2⟩
  · have e_2_0 := e_2_0.symm
    subst e_2_0
    refine lv_if_eq (tgt := 38) hx hb dX12_subscribe_5 (by decide) (fun _ => ?_) (fun z => absurd (by decide) z)
    refine lv_iconst (v := 0) hx hb dX12_subscribe_38 (by decide) ?_
    exact W.zret (v := 0) (ty := .boolean) hx hb hr rfl (fun t ht hW => ⟨⟨0, (), rfl, (s_tX12_subscribe_0 (p1 := p1) (p2 := p2) (p3 := p3) c_2), trivial⟩, hS.F ht⟩) hS.2.2 dX12_subscribe_39
  · have e_4_1 := e_4_1.symm
    subst e_4_1
    refine lv_if_eq (tgt := 38) hx hb dX12_subscribe_5 (by decide) (fun _ => ?_) (fun z => absurd (by decide) z)
    refine lv_iconst (v := 0) hx hb dX12_subscribe_38 (by decide) ?_
    exact W.zret (v := 0) (ty := .boolean) hx hb hr rfl (fun t ht hW => ⟨⟨0, (), rfl, (s_tX12_subscribe_1 (p1 := p1) (p2 := p2) (p3 := p3) c_3 c_4), trivial⟩, hS.F ht⟩) hS.2.2 dX12_subscribe_39
  · have e_6_2 := e_6_2.symm
    subst e_6_2
    refine lv_if_eq (tgt := 38) hx hb dX12_subscribe_5 (by decide) (fun z => absurd z (by decide)) (fun _ => ?_)
    refine lv_aload_n hx hb dX12_subscribe_8 rfl (lv_at hl 0 rfl) ?_
    refine lv_iload_n hx hb dX12_subscribe_9 rfl (lv_at hl 2 rfl) ?_
    refine jc_i (va_runV (As := [.int p2]) (rest := []) ⟨hx, hb, hml, hown, hts⟩ (kX12_isVolume_1 l dC dI _ (ad 0) p2) (cwV 1 hts (jgoodV m_207 m_208 m_209 m_210 m_211) rfl rfl rfl (by decide +kernel) ⟨Nat.le_of_ble_eq_true rfl, Nat.le_of_ble_eq_true rfl⟩) ⟨jw_blind0, va_recv hK hP (ci := 12) (q0 := 0) rfl rfl, fun U hU hW => ⟨rfl, congrArg Array.size hU⟩⟩ rfl rfl hl.1 rfl (lv_room (Nat.le_of_ble_eq_true rfl)) dX12_subscribe_10 ⟨Nat.le_of_ble_eq_true rfl, Nat.le_of_ble_eq_true rfl⟩) hP hS hA (fun r_7 H locs hw_7 hP hS => ?_)
    rcases (show (p2 < 0 ∧ r_7 = 0) ∨ (¬ (p2 < 0) ∧ 6 ≤ p2 ∧ r_7 = 0) ∨ (¬ (p2 < 0) ∧ ¬ (6 ≤ p2) ∧ r_7 = 1) from hw_7) with ⟨c_8, e_8_0⟩ | ⟨c_9, c_10, e_10_1⟩ | ⟨c_11, c_12, e_12_2⟩
    · have e_8_0 := e_8_0.symm
      subst e_8_0
      refine lv_if_eq (tgt := 38) hx hb dX12_subscribe_13 (by decide) (fun _ => ?_) (fun z => absurd (by decide) z)
      refine lv_iconst (v := 0) hx hb dX12_subscribe_38 (by decide) ?_
      exact W.zret (v := 0) (ty := .boolean) hx hb hr rfl (fun t ht hW => ⟨⟨0, (), rfl, (s_tX12_subscribe_2 (p1 := p1) (p2 := p2) (p3 := p3) c_5 c_6 c_8), trivial⟩, hS.F ht⟩) hS.2.2 dX12_subscribe_39
    · have e_10_1 := e_10_1.symm
      subst e_10_1
      refine lv_if_eq (tgt := 38) hx hb dX12_subscribe_13 (by decide) (fun _ => ?_) (fun z => absurd (by decide) z)
      refine lv_iconst (v := 0) hx hb dX12_subscribe_38 (by decide) ?_
      exact W.zret (v := 0) (ty := .boolean) hx hb hr rfl (fun t ht hW => ⟨⟨0, (), rfl, (s_tX12_subscribe_3 (p1 := p1) (p2 := p2) (p3 := p3) c_5 c_6 c_9 c_10), trivial⟩, hS.F ht⟩) hS.2.2 dX12_subscribe_39
    · have e_12_2 := e_12_2.symm
      subst e_12_2
      refine lv_if_eq (tgt := 38) hx hb dX12_subscribe_13 (by decide) (fun z => absurd z (by decide)) (fun _ => ?_)
      refine lv_iload_n hx hb dX12_subscribe_16 rfl (lv_at hl 3 rfl) ?_
      refine lv_iconst (v := 1) hx hb dX12_subscribe_17 (by decide) ?_
      refine lv_icmp_lt (tgt := 38) hx hb dX12_subscribe_18 (by decide) (fun c_13 => ?_) (fun c_13 => ?_)
      · refine lv_iconst (v := 0) hx hb dX12_subscribe_38 (by decide) ?_
        exact W.zret (v := 0) (ty := .boolean) hx hb hr rfl (fun t ht hW => ⟨⟨0, (), rfl, (s_tX12_subscribe_4 (p1 := p1) (p2 := p2) (p3 := p3) c_5 c_6 c_11 c_12 c_13), trivial⟩, hS.F ht⟩) hS.2.2 dX12_subscribe_39
      · refine lv_iload_n hx hb dX12_subscribe_21 rfl (lv_at hl 3 rfl) ?_
        refine lv_sipush (v := 999) hx hb dX12_subscribe_22 (by decide) ?_
        refine lv_icmp_gt (tgt := 38) hx hb dX12_subscribe_25 (by decide) (fun c_14 => ?_) (fun c_14 => ?_)
        · refine lv_iconst (v := 0) hx hb dX12_subscribe_38 (by decide) ?_
          exact W.zret (v := 0) (ty := .boolean) hx hb hr rfl (fun t ht hW => ⟨⟨0, (), rfl, (s_tX12_subscribe_5 (p1 := p1) (p2 := p2) (p3 := p3) c_5 c_6 c_11 c_12 c_13 c_14), trivial⟩, hS.F ht⟩) hS.2.2 dX12_subscribe_39
        · refine lv_aload_n hx hb dX12_subscribe_28 rfl (lv_at hl 0 rfl) ?_
          refine va_get (D := (dC, dI)) (ci := 12) (v := .ref (ad 53)) (C := RX12) (T := TX12) (N := 20) hx hb hts (jh hin_RX12) hown hK hP 0 rfl rfl 15 (by decide) (hts (.fieldLink RX12 70 "BookOfAll" "firstVolume" "[I") (jm m_416)) (fun _ h9 => h9) rfl dX12_subscribe_29 ?_
          refine lv_iload_n hx hb dX12_subscribe_32 rfl (lv_at hl 1 rfl) ?_
          refine va_iald hx hb hK hP 53 42 rfl rfl (jb_in (jl_nlt c_5) (jl_nge (d := 9) c_6 (by decide)) (by decide) (by decide)) dX12_subscribe_33 ?_
          refine jt_i (-1) (jfill_at (jl_nlt c_5) (jl_nge (d := 9) c_6 (by decide)) (by decide) (by decide)) ?_
          refine lv_iconst (v := (-1)) hx hb dX12_subscribe_34 (by decide) ?_
          refine lv_icmp_eq (tgt := 40) hx hb dX12_subscribe_35 (by decide) (fun _ => ?_) (fun z => absurd (by decide) z)
          refine lv_aload_n hx hb dX12_subscribe_40 rfl (lv_at hl 0 rfl) ?_
          refine va_get (D := (dC, dI)) (ci := 12) (v := .ref (ad 53)) (C := RX12) (T := TX12) (N := 20) hx hb hts (jh hin_RX12) hown hK hP 0 rfl rfl 15 (by decide) (hts (.fieldLink RX12 70 "BookOfAll" "firstVolume" "[I") (jm m_416)) (fun _ h9 => h9) rfl dX12_subscribe_41 ?_
          refine lv_iload_n hx hb dX12_subscribe_44 rfl (lv_at hl 1 rfl) ?_
          refine lv_iload_n hx hb dX12_subscribe_45 rfl (lv_at hl 2 rfl) ?_
          refine va_iast hx hb hK hP hD hS 53 42 rfl rfl (jb_in (jl_nlt c_5) (jl_nge (d := 9) c_6 (by decide)) (by decide) (by decide)) dX12_subscribe_46 (fun H locs hP hD hS => ?_)
          refine lv_aload_n hx hb dX12_subscribe_47 rfl (lv_at hl 0 rfl) ?_
          refine va_get (D := (dC, dI)) (ci := 12) (v := .ref (ad 54)) (C := RX12) (T := TX12) (N := 20) hx hb hts (jh hin_RX12) hown hK hP 0 rfl rfl 16 (by decide) (hts (.fieldLink RX12 73 "BookOfAll" "price" "[I") (jm m_417)) (fun _ h9 => h9) rfl dX12_subscribe_48 ?_
          refine lv_iload_n hx hb dX12_subscribe_51 rfl (lv_at hl 1 rfl) ?_
          refine lv_iload_n hx hb dX12_subscribe_52 rfl (lv_at hl 3 rfl) ?_
          refine va_iast hx hb hK hP hD hS 54 43 rfl rfl (jb_in (jl_nlt c_5) (jl_nge (d := 9) c_6 (by decide)) (by decide) (by decide)) dX12_subscribe_53 (fun H locs hP hD hS => ?_)
          refine lv_iconst (v := 1) hx hb dX12_subscribe_54 (by decide) ?_
          exact W.zret (v := 1) (ty := .boolean) hx hb hr rfl (fun t ht hW => ⟨⟨1, (), rfl, (s_tX12_subscribe_6 (p1 := p1) (p2 := p2) (p3 := p3) c_5 c_6 c_11 c_12 c_13 c_14), trivial⟩, hS.F ht⟩) hS.2.2 dX12_subscribe_55
set_option maxHeartbeats 500000 in
set_option maxRecDepth 100000 in
theorem kX12_setVolumeAt_2 (l : Launch) (dC : Nat → ClassId) (dI : Nat → Nat → Nat) (sz : Nat) (ad : Nat → Nat) (ca : Nat → ClassId) : Met l yX12_setVolumeAt (jk yX12_setVolumeAt cX12_setVolumeAt 3 (some (.object "BookOfAll$Volume"))) ({ frames := 2, cells := 0, slots := 0, locals := 42 }) (va_Pc [.ref (ad 0), .int 0] (jw_P (dC, dI) (xW ad ca) (xT ca) sz)) (va_Qq (fun (r : Option Nat) (_ : Unit) => (r = none)) (fun _ _ => True) (va_A [] sz)) 0 0 (va_A [] sz) := by
  refine Met.ofW (cc := cX12_setVolumeAt) (maxL := 3) (ret := (some (.object "BookOfAll$Volume"))) (by decide) rfl ?_
  intro p e s m args below meth c s₁ B hml hv
  obtain ⟨rfl, hsz, hP, hK, hD0⟩ := hv
  have hx := B.exec
  have hb := B.bytes
  have hr := B.returns
  have hts := atoms_spec (ws := (jk yX12_setVolumeAt cX12_setVolumeAt 3 (some (.object "BookOfAll$Volume")))) B.pre
  have hown : s.vm.findClass RX12 = some m.cls := findClass_of_methodNamed B.named
  have hlocks := B.notSynchronized
  subst hsz
  have hD := hD0
  generalize hAe : (va_A [] s.heap.size) = A
  have hA : ∀ q : Nat, s.heap.size ≤ q → A q := fun q h => by rw [← hAe]; exact Or.inr h
  have hS : va_S A s.heap s.heap [] := va_S.rf
  have hP : va_P (dC, dI) vwCl (xW ad ca) s.heap := hP
  have hl := lv_entry ([.ref (ad 0), .int 0]) (n := 3) (Nat.le_of_ble_eq_true rfl)
  rw [lg_entry_eq]
  generalize (lg_sl ([.ref (ad 0), .int 0]) ++ List.replicate (3 - (lg_sl ([.ref (ad 0), .int 0])).length) Slot.unset).toArray = ls at hl ⊢
  have hl : lv_has ls 3 [(0, .ref (ad 0)), (1, .int 0)] := hl
  refine lv_aload_n hx hb dX12_setVolumeAt_0 rfl (lv_at hl 0 rfl) ?_
  refine lv_iload_n hx hb dX12_setVolumeAt_1 rfl (lv_at hl 1 rfl) ?_
  refine jc_q (va_runV (As := [.int 0]) (rest := []) ⟨hx, hb, hml, hown, hts⟩ (kX12_volumeAt_6 l dC dI _ ad ca) (cwV 1 hts (jgoodV m_232 m_233 m_234 m_210 m_235) rfl rfl rfl (by decide +kernel) ⟨Nat.le_of_ble_eq_true rfl, Nat.le_of_ble_eq_true rfl⟩) ⟨jw_blind, va_recv hK hP (ci := 12) (q0 := 0) rfl rfl, fun U hU hW => ⟨rfl, jw_of hU hW hP hK hD⟩⟩ rfl rfl hl.1 rfl (lv_room (Nat.le_of_ble_eq_true rfl)) dX12_setVolumeAt_2 ⟨Nat.le_of_ble_eq_true rfl, Nat.le_of_ble_eq_true rfl⟩) hP hS hA (fun r_1 H locs hw_1 hP hS => ?_)
  have hw_1 : some (ad 20) = r_1 := Eq.symm hw_1
  subst hw_1
  refine jt_q (Value.ref (ad 20)) rfl ?_
  refine lv_astore_n (lv' := [(2, .ref (ad 20)), (0, .ref (ad 0)), (1, .int 0)]) hx hb dX12_setVolumeAt_5 rfl hl (by decide) rfl (fun ls hl => ?_)
  refine lv_aload_n hx hb dX12_setVolumeAt_6 rfl (lv_at hl 0 rfl) ?_
  refine lv_ifnull hx hb dX12_setVolumeAt_7 ?_
  refine lv_aload_n hx hb dX12_setVolumeAt_10 rfl (lv_at hl 0 rfl) ?_
  refine va_get (D := (dC, dI)) (ci := 11) (v := .int (-1)) (C := RX11) (T := TX11) (N := 7) hx hb hts (jh hin_RX11) hown hK hP 20 rfl rfl 1 (by decide) (hts (.fieldLink RX12 170 "BookOfAll$Volume" "setDay" "I") (jm m_332)) (fun _ h9 => h9) rfl dX12_setVolumeAt_11 ?_
  refine lv_iconst (v := (-1)) hx hb dX12_setVolumeAt_14 (by decide) ?_
  refine lv_icmp_eq (tgt := 22) hx hb dX12_setVolumeAt_15 (by decide) (fun _ => ?_) (fun z => absurd (by decide) z)
  refine lv_null hx hb dX12_setVolumeAt_22 ?_
  exact W.aret (v := .null) hx hb hr (Or.inl ⟨_, rfl⟩) (Or.inl rfl) (fun t ht hW => ⟨⟨none, (), rfl, rfl, trivial⟩, hS.F ht⟩) hS.2.2 dX12_setVolumeAt_23
set_option maxHeartbeats 500000 in
set_option maxRecDepth 100000 in
theorem tX12_owed_v0 (l : Launch) (dC : Nat → ClassId) (dI : Nat → Nat → Nat) (sz : Nat) (ad : Nat → Nat) (ca : Nat → ClassId) (p1 : Int32) : Met l yX12_owed (jk yX12_owed cX12_owed 5 (some .int)) ({ frames := 3, cells := 0, slots := 0, locals := 64 }) (va_Pc [.ref (ad 0), .int p1, .int 0] (jw_P (dC, dI) (xW ad ca) (xT ca) sz)) (va_Qi (fun (r : Int32) (_ : Unit) => (r = (-1))) (fun _ _ => True) (va_A [] sz)) 0 0 (va_A [] sz) := by
  refine Met.ofW (cc := cX12_owed) (maxL := 5) (ret := (some .int)) (by decide) rfl ?_
  intro p e s m args below meth c s₁ B hml hv
  obtain ⟨rfl, hsz, hP, hK, hD0⟩ := hv
  have hx := B.exec
  have hb := B.bytes
  have hr := B.returns
  have hts := atoms_spec (ws := (jk yX12_owed cX12_owed 5 (some .int))) B.pre
  have hown : s.vm.findClass RX12 = some m.cls := findClass_of_methodNamed B.named
  have hlocks := B.notSynchronized
  subst hsz
  have hD := hD0
  generalize hAe : (va_A [] s.heap.size) = A
  have hA : ∀ q : Nat, s.heap.size ≤ q → A q := fun q h => by rw [← hAe]; exact Or.inr h
  have hS : va_S A s.heap s.heap [] := va_S.rf
  have hP : va_P (dC, dI) vwCl (xW ad ca) s.heap := hP
  have hl := lv_entry ([.ref (ad 0), .int p1, .int 0]) (n := 5) (Nat.le_of_ble_eq_true rfl)
  rw [lg_entry_eq]
  generalize (lg_sl ([.ref (ad 0), .int p1, .int 0]) ++ List.replicate (5 - (lg_sl ([.ref (ad 0), .int p1, .int 0])).length) Slot.unset).toArray = ls at hl ⊢
  have hl : lv_has ls 5 [(0, .ref (ad 0)), (1, .int p1), (2, .int 0)] := hl
  refine lv_aload_n hx hb dX12_owed_0 rfl (lv_at hl 0 rfl) ?_
  refine lv_iload_n hx hb dX12_owed_1 rfl (lv_at hl 2 rfl) ?_
  refine jc_q (va_runV (As := [.int 0]) (rest := []) ⟨hx, hb, hml, hown, hts⟩ (kX12_setVolumeAt_2 l dC dI _ ad ca) (cwV 1 hts (jgoodV m_418 m_419 m_420 m_210 m_421) rfl rfl rfl (by decide +kernel) ⟨Nat.le_of_ble_eq_true rfl, Nat.le_of_ble_eq_true rfl⟩) ⟨jw_blind, va_recv hK hP (ci := 12) (q0 := 0) rfl rfl, fun U hU hW => ⟨rfl, jw_of hU hW hP hK hD⟩⟩ rfl rfl hl.1 rfl (lv_room (Nat.le_of_ble_eq_true rfl)) dX12_owed_2 ⟨Nat.le_of_ble_eq_true rfl, Nat.le_of_ble_eq_true rfl⟩) hP hS hA (fun r_1 H locs hw_1 hP hS => ?_)
  have hw_1 : none = r_1 := Eq.symm hw_1
  subst hw_1
  refine jt_q Value.null rfl ?_
  refine lv_astore_nN (lv' := [(3, .null), (0, .ref (ad 0)), (1, .int p1), (2, .int 0)]) hx hb dX12_owed_5 rfl hl (by decide) rfl (fun ls hl => ?_)
  refine lv_aload_nN hx hb dX12_owed_6 rfl (lv_at hl 0 rfl) ?_
  refine lv_ifnullN (tgt := 38) hx hb dX12_owed_7 (by decide) ?_
  refine lv_iconst (v := (-1)) hx hb dX12_owed_38 (by decide) ?_
  exact W.iret (v := (-1)) hx hb hr (fun t ht hW => ⟨⟨(-1), (), rfl, rfl, trivial⟩, hS.F ht⟩) hS.2.2 dX12_owed_39
set_option maxHeartbeats 500000 in
set_option maxRecDepth 100000 in
theorem kX12_setVolumeAt_4 (l : Launch) (dC : Nat → ClassId) (dI : Nat → Nat → Nat) (sz : Nat) (ad : Nat → Nat) (ca : Nat → ClassId) : Met l yX12_setVolumeAt (jk yX12_setVolumeAt cX12_setVolumeAt 3 (some (.object "BookOfAll$Volume"))) ({ frames := 2, cells := 0, slots := 0, locals := 42 }) (va_Pc [.ref (ad 0), .int 1] (jw_P (dC, dI) (xW ad ca) (xT ca) sz)) (va_Qq (fun (r : Option Nat) (_ : Unit) => (r = none)) (fun _ _ => True) (va_A [] sz)) 0 0 (va_A [] sz) := by
  refine Met.ofW (cc := cX12_setVolumeAt) (maxL := 3) (ret := (some (.object "BookOfAll$Volume"))) (by decide) rfl ?_
  intro p e s m args below meth c s₁ B hml hv
  obtain ⟨rfl, hsz, hP, hK, hD0⟩ := hv
  have hx := B.exec
  have hb := B.bytes
  have hr := B.returns
  have hts := atoms_spec (ws := (jk yX12_setVolumeAt cX12_setVolumeAt 3 (some (.object "BookOfAll$Volume")))) B.pre
  have hown : s.vm.findClass RX12 = some m.cls := findClass_of_methodNamed B.named
  have hlocks := B.notSynchronized
  subst hsz
  have hD := hD0
  generalize hAe : (va_A [] s.heap.size) = A
  have hA : ∀ q : Nat, s.heap.size ≤ q → A q := fun q h => by rw [← hAe]; exact Or.inr h
  have hS : va_S A s.heap s.heap [] := va_S.rf
  have hP : va_P (dC, dI) vwCl (xW ad ca) s.heap := hP
  have hl := lv_entry ([.ref (ad 0), .int 1]) (n := 3) (Nat.le_of_ble_eq_true rfl)
  rw [lg_entry_eq]
  generalize (lg_sl ([.ref (ad 0), .int 1]) ++ List.replicate (3 - (lg_sl ([.ref (ad 0), .int 1])).length) Slot.unset).toArray = ls at hl ⊢
  have hl : lv_has ls 3 [(0, .ref (ad 0)), (1, .int 1)] := hl
  refine lv_aload_n hx hb dX12_setVolumeAt_0 rfl (lv_at hl 0 rfl) ?_
  refine lv_iload_n hx hb dX12_setVolumeAt_1 rfl (lv_at hl 1 rfl) ?_
  refine jc_q (va_runV (As := [.int 1]) (rest := []) ⟨hx, hb, hml, hown, hts⟩ (kX12_volumeAt_4 l dC dI _ ad ca) (cwV 1 hts (jgoodV m_232 m_233 m_234 m_210 m_235) rfl rfl rfl (by decide +kernel) ⟨Nat.le_of_ble_eq_true rfl, Nat.le_of_ble_eq_true rfl⟩) ⟨jw_blind, va_recv hK hP (ci := 12) (q0 := 0) rfl rfl, fun U hU hW => ⟨rfl, jw_of hU hW hP hK hD⟩⟩ rfl rfl hl.1 rfl (lv_room (Nat.le_of_ble_eq_true rfl)) dX12_setVolumeAt_2 ⟨Nat.le_of_ble_eq_true rfl, Nat.le_of_ble_eq_true rfl⟩) hP hS hA (fun r_1 H locs hw_1 hP hS => ?_)
  have hw_1 : some (ad 23) = r_1 := Eq.symm hw_1
  subst hw_1
  refine jt_q (Value.ref (ad 23)) rfl ?_
  refine lv_astore_n (lv' := [(2, .ref (ad 23)), (0, .ref (ad 0)), (1, .int 1)]) hx hb dX12_setVolumeAt_5 rfl hl (by decide) rfl (fun ls hl => ?_)
  refine lv_aload_n hx hb dX12_setVolumeAt_6 rfl (lv_at hl 0 rfl) ?_
  refine lv_ifnull hx hb dX12_setVolumeAt_7 ?_
  refine lv_aload_n hx hb dX12_setVolumeAt_10 rfl (lv_at hl 0 rfl) ?_
  refine va_get (D := (dC, dI)) (ci := 11) (v := .int (-1)) (C := RX11) (T := TX11) (N := 7) hx hb hts (jh hin_RX11) hown hK hP 23 rfl rfl 1 (by decide) (hts (.fieldLink RX12 170 "BookOfAll$Volume" "setDay" "I") (jm m_332)) (fun _ h9 => h9) rfl dX12_setVolumeAt_11 ?_
  refine lv_iconst (v := (-1)) hx hb dX12_setVolumeAt_14 (by decide) ?_
  refine lv_icmp_eq (tgt := 22) hx hb dX12_setVolumeAt_15 (by decide) (fun _ => ?_) (fun z => absurd (by decide) z)
  refine lv_null hx hb dX12_setVolumeAt_22 ?_
  exact W.aret (v := .null) hx hb hr (Or.inl ⟨_, rfl⟩) (Or.inl rfl) (fun t ht hW => ⟨⟨none, (), rfl, rfl, trivial⟩, hS.F ht⟩) hS.2.2 dX12_setVolumeAt_23
set_option maxHeartbeats 500000 in
set_option maxRecDepth 100000 in
theorem tX12_owed_v1 (l : Launch) (dC : Nat → ClassId) (dI : Nat → Nat → Nat) (sz : Nat) (ad : Nat → Nat) (ca : Nat → ClassId) (p1 : Int32) : Met l yX12_owed (jk yX12_owed cX12_owed 5 (some .int)) ({ frames := 3, cells := 0, slots := 0, locals := 64 }) (va_Pc [.ref (ad 0), .int p1, .int 1] (jw_P (dC, dI) (xW ad ca) (xT ca) sz)) (va_Qi (fun (r : Int32) (_ : Unit) => (r = (-1))) (fun _ _ => True) (va_A [] sz)) 0 0 (va_A [] sz) := by
  refine Met.ofW (cc := cX12_owed) (maxL := 5) (ret := (some .int)) (by decide) rfl ?_
  intro p e s m args below meth c s₁ B hml hv
  obtain ⟨rfl, hsz, hP, hK, hD0⟩ := hv
  have hx := B.exec
  have hb := B.bytes
  have hr := B.returns
  have hts := atoms_spec (ws := (jk yX12_owed cX12_owed 5 (some .int))) B.pre
  have hown : s.vm.findClass RX12 = some m.cls := findClass_of_methodNamed B.named
  have hlocks := B.notSynchronized
  subst hsz
  have hD := hD0
  generalize hAe : (va_A [] s.heap.size) = A
  have hA : ∀ q : Nat, s.heap.size ≤ q → A q := fun q h => by rw [← hAe]; exact Or.inr h
  have hS : va_S A s.heap s.heap [] := va_S.rf
  have hP : va_P (dC, dI) vwCl (xW ad ca) s.heap := hP
  have hl := lv_entry ([.ref (ad 0), .int p1, .int 1]) (n := 5) (Nat.le_of_ble_eq_true rfl)
  rw [lg_entry_eq]
  generalize (lg_sl ([.ref (ad 0), .int p1, .int 1]) ++ List.replicate (5 - (lg_sl ([.ref (ad 0), .int p1, .int 1])).length) Slot.unset).toArray = ls at hl ⊢
  have hl : lv_has ls 5 [(0, .ref (ad 0)), (1, .int p1), (2, .int 1)] := hl
  refine lv_aload_n hx hb dX12_owed_0 rfl (lv_at hl 0 rfl) ?_
  refine lv_iload_n hx hb dX12_owed_1 rfl (lv_at hl 2 rfl) ?_
  refine jc_q (va_runV (As := [.int 1]) (rest := []) ⟨hx, hb, hml, hown, hts⟩ (kX12_setVolumeAt_4 l dC dI _ ad ca) (cwV 1 hts (jgoodV m_418 m_419 m_420 m_210 m_421) rfl rfl rfl (by decide +kernel) ⟨Nat.le_of_ble_eq_true rfl, Nat.le_of_ble_eq_true rfl⟩) ⟨jw_blind, va_recv hK hP (ci := 12) (q0 := 0) rfl rfl, fun U hU hW => ⟨rfl, jw_of hU hW hP hK hD⟩⟩ rfl rfl hl.1 rfl (lv_room (Nat.le_of_ble_eq_true rfl)) dX12_owed_2 ⟨Nat.le_of_ble_eq_true rfl, Nat.le_of_ble_eq_true rfl⟩) hP hS hA (fun r_1 H locs hw_1 hP hS => ?_)
  have hw_1 : none = r_1 := Eq.symm hw_1
  subst hw_1
  refine jt_q Value.null rfl ?_
  refine lv_astore_nN (lv' := [(3, .null), (0, .ref (ad 0)), (1, .int p1), (2, .int 1)]) hx hb dX12_owed_5 rfl hl (by decide) rfl (fun ls hl => ?_)
  refine lv_aload_nN hx hb dX12_owed_6 rfl (lv_at hl 0 rfl) ?_
  refine lv_ifnullN (tgt := 38) hx hb dX12_owed_7 (by decide) ?_
  refine lv_iconst (v := (-1)) hx hb dX12_owed_38 (by decide) ?_
  exact W.iret (v := (-1)) hx hb hr (fun t ht hW => ⟨⟨(-1), (), rfl, rfl, trivial⟩, hS.F ht⟩) hS.2.2 dX12_owed_39
