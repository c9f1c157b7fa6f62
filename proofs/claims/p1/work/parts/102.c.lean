theorem s_tX12_end_0 {p1 : Int32} (c_1 : p1 < 0) : 0 = sp_end p1 := by
  unfold sp_end
  have g0 : p1.toInt < 0 := ji_lt.mp c_1
  split <;> first | rfl | (exfalso; omega)
theorem s_tX12_end_1 {p1 : Int32} (c_1 : ¬ (p1 < 0)) (c_2 : p1 ≤ 0) : 1 = sp_end p1 := by
  unfold sp_end
  have g0 : ¬ (p1.toInt < 0) := fun z => c_1 (ji_lt.mpr z)
  have g1 : p1.toInt ≤ 0 := ji_le.mp c_2
  split <;> first | rfl | (exfalso; omega)
theorem s_tX12_end_2 {p1 : Int32} (c_1 : ¬ (p1 < 0)) (c_2 : ¬ (p1 ≤ 0)) : 0 = sp_end p1 := by
  unfold sp_end
  have g0 : ¬ (p1.toInt < 0) := fun z => c_1 (ji_lt.mpr z)
  have g1 : ¬ (p1.toInt ≤ 0) := fun z => c_2 (ji_le.mpr z)
  split <;> first | rfl | (exfalso; omega)
set_option maxHeartbeats 500000 in
set_option maxRecDepth 100000 in
theorem tX12_end (l : Launch) (dC : Nat → ClassId) (dI : Nat → Nat → Nat) (sz : Nat) (ad : Nat → Nat) (ca : Nat → ClassId) (p1 : Int32) : Met l yX12_end (jk yX12_end cX12_end 2 (some .boolean)) ({ frames := 0, cells := 0, slots := 0, locals := 0 }) (va_Pc [.ref (ad 0), .int p1] (jw_P (dC, dI) (xW ad ca) (xT ca) sz)) (va_Qi (fun (r : Int32) (_ : Unit) => r = sp_end p1) (fun _ _ => True) (va_A (xW ad ca) sz)) 0 0 (va_A (xW ad ca) sz) := by
  refine Met.ofW (cc := cX12_end) (maxL := 2) (ret := (some .boolean)) (by decide) rfl ?_
  intro p e s m args below meth c s₁ B hml hv
  obtain ⟨rfl, hsz, hP, hK, hD0⟩ := hv
  have hx := B.exec
  have hb := B.bytes
  have hr := B.returns
  have hts := atoms_spec (ws := (jk yX12_end cX12_end 2 (some .boolean))) B.pre
  have hown : s.vm.findClass RX12 = some m.cls := findClass_of_methodNamed B.named
  have hlocks := B.notSynchronized
  subst hsz
  have hD := hD0.self (sz := s.heap.size)
  generalize hAe : (va_A (xW ad ca) s.heap.size) = A at hD ⊢
  have hA : ∀ q : Nat, s.heap.size ≤ q → A q := fun q h => by rw [← hAe]; exact Or.inr h
  have hS : va_S A s.heap s.heap [] := va_S.rf
  have hP : va_P (dC, dI) vwCl (xW ad ca) s.heap := hP
  have hl := lv_entry ([.ref (ad 0), .int p1]) (n := 2) (Nat.le_of_ble_eq_true rfl)
  rw [lg_entry_eq]
  generalize (lg_sl ([.ref (ad 0), .int p1]) ++ List.replicate (2 - (lg_sl ([.ref (ad 0), .int p1])).length) Slot.unset).toArray = ls at hl ⊢
  have hl : lv_has ls 2 [(0, .ref (ad 0)), (1, .int p1)] := hl
  refine lv_iload_n hx hb dX12_end_0 rfl (lv_at hl 1 rfl) ?_
  refine lv_if_lt (tgt := 15) hx hb dX12_end_1 (by decide) (fun c_1 => ?_) (fun c_1 => ?_)
  · refine lv_iconst (v := 0) hx hb dX12_end_15 (by decide) ?_
    exact W.zret (v := 0) (ty := .boolean) hx hb hr rfl (fun t ht hW => ⟨⟨0, (), rfl, (s_tX12_end_0 (p1 := p1) c_1), trivial⟩, hS.F ht⟩) hS.2.2 dX12_end_16
  · refine lv_iload_n hx hb dX12_end_4 rfl (lv_at hl 1 rfl) ?_
    refine lv_aload_n hx hb dX12_end_5 rfl (lv_at hl 0 rfl) ?_
    refine va_get (D := (dC, dI)) (ci := 12) (v := .ref (ad 1)) (C := RX12) (T := TX12) (N := 20) hx hb hts (jh hin_RX12) hown hK hP 0 rfl rfl 2 (by decide) (hts (.fieldLink RX12 10 "BookOfAll" "reader" "LBookOfAll$Reader;") (jm m_101)) (fun _ h9 => h9) rfl dX12_end_6 ?_
    refine va_get (D := (dC, dI)) (ci := 7) (v := .int 0) (C := RX7) (T := TX7) (N := 15) hx hb hts (jh hin_RX7) hown hK hP 1 rfl rfl 1 (by decide) (hts (.fieldLink RX12 103 "BookOfAll$Reader" "size" "I") (jm m_102)) (fun _ h9 => h9) rfl dX12_end_9 ?_
    refine lv_icmp_le (tgt := 17) hx hb dX12_end_12 (by decide) (fun c_2 => ?_) (fun c_2 => ?_)
    · refine lv_aload_n hx hb dX12_end_17 rfl (lv_at hl 0 rfl) ?_
      refine va_get (D := (dC, dI)) (ci := 12) (v := .ref (ad 1)) (C := RX12) (T := TX12) (N := 20) hx hb hts (jh hin_RX12) hown hK hP 0 rfl rfl 2 (by decide) (hts (.fieldLink RX12 10 "BookOfAll" "reader" "LBookOfAll$Reader;") (jm m_101)) (fun _ h9 => h9) rfl dX12_end_18 ?_
      refine lv_iload_n hx hb dX12_end_21 rfl (lv_at hl 1 rfl) ?_
      refine va_put (D := (dC, dI)) (ci := 7) (v := .int p1) (ty := .int) (C := RX7) (T := TX7) (N := 15) hx hb hts (jh hin_RX7) tyX7 tyX7_ok nmX7 hown hK hP hD hS 1 rfl rfl 1 (by decide) (hts (.fieldLink RX12 103 "BookOfAll$Reader" "size" "I") (jm m_102)) (fun _ h9 => h9) rfl (by decide +kernel) rfl rfl (Nat.le_of_ble_eq_true rfl) dX12_end_22 (fun H locs hP hD hS => ?_)
      refine lv_iconst (v := 1) hx hb dX12_end_25 (by decide) ?_
      exact W.zret (v := 1) (ty := .boolean) hx hb hr rfl (fun t ht hW => ⟨⟨1, (), rfl, (s_tX12_end_1 (p1 := p1) c_1 c_2), trivial⟩, hS.F ht⟩) hS.2.2 dX12_end_26
    · refine lv_iconst (v := 0) hx hb dX12_end_15 (by decide) ?_
      exact W.zret (v := 0) (ty := .boolean) hx hb hr rfl (fun t ht hW => ⟨⟨0, (), rfl, (s_tX12_end_2 (p1 := p1) c_1 c_2), trivial⟩, hS.F ht⟩) hS.2.2 dX12_end_16
set_option maxHeartbeats 500000 in
set_option maxRecDepth 100000 in
theorem kX7_byteAt_2 (l : Launch) (dC : Nat → ClassId) (dI : Nat → Nat → Nat) (sz : Nat) (ad : Nat → Nat) (ca : Nat → ClassId) : Met l yX7_byteAt (jk yX7_byteAt cX7_byteAt 2 (some .int)) ({ frames := 0, cells := 0, slots := 0, locals := 0 }) (va_Pc [.ref (ad 1), .int 0] (jw_P (dC, dI) (xW ad ca) (xT ca) sz)) (va_Qi (fun (r : Int32) (_ : Unit) => (r = 0)) (fun _ _ => True) (va_A [] sz)) 0 0 (va_A [] sz) := by
  refine Met.ofW (cc := cX7_byteAt) (maxL := 2) (ret := (some .int)) (by decide) rfl ?_
  intro p e s m args below meth c s₁ B hml hv
  obtain ⟨rfl, hsz, hP, hK, hD0⟩ := hv
  have hx := B.exec
  have hb := B.bytes
  have hr := B.returns
  have hts := atoms_spec (ws := (jk yX7_byteAt cX7_byteAt 2 (some .int))) B.pre
  have hown : s.vm.findClass RX7 = some m.cls := findClass_of_methodNamed B.named
  have hlocks := B.notSynchronized
  subst hsz
  have hD := hD0
  generalize hAe : (va_A [] s.heap.size) = A
  have hA : ∀ q : Nat, s.heap.size ≤ q → A q := fun q h => by rw [← hAe]; exact Or.inr h
  have hS : va_S A s.heap s.heap [] := va_S.rf
  have hP : va_P (dC, dI) vwCl (xW ad ca) s.heap := hP
  have hl := lv_entry ([.ref (ad 1), .int 0]) (n := 2) (Nat.le_of_ble_eq_true rfl)
  rw [lg_entry_eq]
  generalize (lg_sl ([.ref (ad 1), .int 0]) ++ List.replicate (2 - (lg_sl ([.ref (ad 1), .int 0])).length) Slot.unset).toArray = ls at hl ⊢
  have hl : lv_has ls 2 [(0, .ref (ad 1)), (1, .int 0)] := hl
  refine lv_iload_n hx hb dX7_byteAt_0 rfl (lv_at hl 1 rfl) ?_
  refine lv_if_lt (tgt := 32) hx hb dX7_byteAt_1 (by decide) (fun z => absurd z (by decide)) (fun _ => ?_)
  refine lv_iload_n hx hb dX7_byteAt_4 rfl (lv_at hl 1 rfl) ?_
  refine lv_aload_n hx hb dX7_byteAt_5 rfl (lv_at hl 0 rfl) ?_
  refine va_get (D := (dC, dI)) (ci := 7) (v := .int 0) (C := RX7) (T := TX7) (N := 15) hx hb hts (jh hin_RX7) hown hK hP 1 rfl rfl 1 (by decide) (hts (.fieldLink RX7 43 "BookOfAll$Reader" "size" "I") (jm m_103)) (fun _ h9 => h9) rfl dX7_byteAt_6 ?_
  refine lv_icmp_ge (tgt := 32) hx hb dX7_byteAt_9 (by decide) (fun _ => ?_) (fun z => absurd (by decide) z)
  refine lv_iconst (v := 0) hx hb dX7_byteAt_32 (by decide) ?_
  exact W.iret (v := 0) hx hb hr (fun t ht hW => ⟨⟨0, (), rfl, rfl, trivial⟩, hS.F ht⟩) hS.2.2 dX7_byteAt_33
set_option maxHeartbeats 500000 in
set_option maxRecDepth 100000 in
theorem kX7_kindAt_2 (l : Launch) (dC : Nat → ClassId) (dI : Nat → Nat → Nat) (sz : Nat) (ad : Nat → Nat) (ca : Nat → ClassId) : Met l yX7_kindAt (jk yX7_kindAt cX7_kindAt 3 (some .int)) ({ frames := 1, cells := 0, slots := 0, locals := 21 }) (va_Pc [.ref (ad 1), .int 0] (jw_P (dC, dI) (xW ad ca) (xT ca) sz)) (va_Qi (fun (r : Int32) (_ : Unit) => (r = 0)) (fun _ _ => True) (va_A [] sz)) 0 0 (va_A [] sz) := by
  refine Met.ofW (cc := cX7_kindAt) (maxL := 3) (ret := (some .int)) (by decide) rfl ?_
  intro p e s m args below meth c s₁ B hml hv
  obtain ⟨rfl, hsz, hP, hK, hD0⟩ := hv
  have hx := B.exec
  have hb := B.bytes
  have hr := B.returns
  have hts := atoms_spec (ws := (jk yX7_kindAt cX7_kindAt 3 (some .int))) B.pre
  have hown : s.vm.findClass RX7 = some m.cls := findClass_of_methodNamed B.named
  have hlocks := B.notSynchronized
  subst hsz
  have hD := hD0
  generalize hAe : (va_A [] s.heap.size) = A
  have hA : ∀ q : Nat, s.heap.size ≤ q → A q := fun q h => by rw [← hAe]; exact Or.inr h
  have hS : va_S A s.heap s.heap [] := va_S.rf
  have hP : va_P (dC, dI) vwCl (xW ad ca) s.heap := hP
  have hl := lv_entry ([.ref (ad 1), .int 0]) (n := 3) (Nat.le_of_ble_eq_true rfl)
  rw [lg_entry_eq]
  generalize (lg_sl ([.ref (ad 1), .int 0]) ++ List.replicate (3 - (lg_sl ([.ref (ad 1), .int 0])).length) Slot.unset).toArray = ls at hl ⊢
  have hl : lv_has ls 3 [(0, .ref (ad 1)), (1, .int 0)] := hl
  refine lv_aload_n hx hb dX7_kindAt_0 rfl (lv_at hl 0 rfl) ?_
  refine lv_iload_n hx hb dX7_kindAt_1 rfl (lv_at hl 1 rfl) ?_
  refine jc_i (va_runV (As := [.int 0]) (rest := []) ⟨hx, hb, hml, hown, hts⟩ (kX7_byteAt_2 l dC dI _ ad ca) (cwV 1 hts (jgoodV m_111 m_112 m_113 m_108 m_114) rfl rfl rfl (by decide +kernel) ⟨Nat.le_of_ble_eq_true rfl, Nat.le_of_ble_eq_true rfl⟩) ⟨jw_blind, va_recv hK hP (ci := 7) (q0 := 1) rfl rfl, fun U hU hW => ⟨rfl, jw_of hU hW hP hK hD⟩⟩ rfl rfl hl.1 rfl (lv_room (Nat.le_of_ble_eq_true rfl)) dX7_kindAt_2 ⟨Nat.le_of_ble_eq_true rfl, Nat.le_of_ble_eq_true rfl⟩) hP hS hA (fun r_1 H locs hw_1 hP hS => ?_)
  have hw_1 : 0 = r_1 := Eq.symm hw_1
  subst hw_1
  refine lv_istore_n (lv' := [(2, .int 0), (0, .ref (ad 1)), (1, .int 0)]) hx hb dX7_kindAt_5 rfl hl (by decide) rfl (fun ls hl => ?_)
  refine lv_iload_n hx hb dX7_kindAt_6 rfl (lv_at hl 2 rfl) ?_
  refine lv_aload_n hx hb dX7_kindAt_7 rfl (lv_at hl 1 rfl) ?_
  refine va_get (D := (dC, dI)) (ci := 7) (v := .int 0) (C := RX7) (T := TX7) (N := 15) hx hb hts (jh hin_RX7) hown hK hP 1 rfl rfl 1 (by decide) (hts (.fieldLink RX7 43 "BookOfAll$Reader" "size" "I") (jm m_103)) (fun _ h9 => h9) rfl dX7_kindAt_8 ?_
  refine lv_icmp_lt (tgt := 16) hx hb dX7_kindAt_11 (by decide) (fun z => absurd z (by decide)) (fun _ => ?_)
  refine lv_iconst (v := 0) hx hb dX7_kindAt_14 (by decide) ?_
  exact W.iret (v := 0) hx hb hr (fun t ht hW => ⟨⟨0, (), rfl, rfl, trivial⟩, hS.F ht⟩) hS.2.2 dX7_kindAt_15
set_option maxHeartbeats 500000 in
set_option maxRecDepth 100000 in
theorem kX7_stopAt_2 (l : Launch) (dC : Nat → ClassId) (dI : Nat → Nat → Nat) (sz : Nat) (ad : Nat → Nat) (ca : Nat → ClassId) : Met l yX7_stopAt (jk yX7_stopAt cX7_stopAt 4 (some .int)) ({ frames := 0, cells := 0, slots := 0, locals := 0 }) (va_Pc [.ref (ad 1), .int 0, .int 0] (jw_P (dC, dI) (xW ad ca) (xT ca) sz)) (va_Qi (fun (r : Int32) (_ : Unit) => (r = 1)) (fun _ _ => True) (va_A [] sz)) 0 0 (va_A [] sz) := by
  refine Met.ofW (cc := cX7_stopAt) (maxL := 4) (ret := (some .int)) (by decide) rfl ?_
  intro p e s m args below meth c s₁ B hml hv
  obtain ⟨rfl, hsz, hP, hK, hD0⟩ := hv
  have hx := B.exec
  have hb := B.bytes
  have hr := B.returns
  have hts := atoms_spec (ws := (jk yX7_stopAt cX7_stopAt 4 (some .int))) B.pre
  have hown : s.vm.findClass RX7 = some m.cls := findClass_of_methodNamed B.named
  have hlocks := B.notSynchronized
  subst hsz
  have hD := hD0
  generalize hAe : (va_A [] s.heap.size) = A
  have hA : ∀ q : Nat, s.heap.size ≤ q → A q := fun q h => by rw [← hAe]; exact Or.inr h
  have hS : va_S A s.heap s.heap [] := va_S.rf
  have hP : va_P (dC, dI) vwCl (xW ad ca) s.heap := hP
  have hl := lv_entry ([.ref (ad 1), .int 0, .int 0]) (n := 4) (Nat.le_of_ble_eq_true rfl)
  rw [lg_entry_eq]
  generalize (lg_sl ([.ref (ad 1), .int 0, .int 0]) ++ List.replicate (4 - (lg_sl ([.ref (ad 1), .int 0, .int 0])).length) Slot.unset).toArray = ls at hl ⊢
  have hl : lv_has ls 4 [(0, .ref (ad 1)), (1, .int 0), (2, .int 0)] := hl
  refine lv_iload_n hx hb dX7_stopAt_0 rfl (lv_at hl 1 rfl) ?_
  refine lv_iconst (v := 1) hx hb dX7_stopAt_1 (by decide) ?_
  refine lv_iadd hx hb dX7_stopAt_2 ?_
  refine jt_i 1 (by decide) ?_
  refine lv_istore_n (lv' := [(3, .int 1), (0, .ref (ad 1)), (1, .int 0), (2, .int 0)]) hx hb dX7_stopAt_3 rfl hl (by decide) rfl (fun ls hl => ?_)
  refine lv_iload_n hx hb dX7_stopAt_4 rfl (lv_at hl 0 rfl) ?_
  refine lv_aload_n hx hb dX7_stopAt_5 rfl (lv_at hl 1 rfl) ?_
  refine va_get (D := (dC, dI)) (ci := 7) (v := .int 0) (C := RX7) (T := TX7) (N := 15) hx hb hts (jh hin_RX7) hown hK hP 1 rfl rfl 1 (by decide) (hts (.fieldLink RX7 43 "BookOfAll$Reader" "size" "I") (jm m_103)) (fun _ h9 => h9) rfl dX7_stopAt_6 ?_
  refine lv_icmp_ge (tgt := 34) hx hb dX7_stopAt_9 (by decide) (fun _ => ?_) (fun z => absurd (by decide) z)
  refine lv_iload_n hx hb dX7_stopAt_34 rfl (lv_at hl 0 rfl) ?_
  refine lv_aload_n hx hb dX7_stopAt_35 rfl (lv_at hl 1 rfl) ?_
  refine va_get (D := (dC, dI)) (ci := 7) (v := .int 0) (C := RX7) (T := TX7) (N := 15) hx hb hts (jh hin_RX7) hown hK hP 1 rfl rfl 1 (by decide) (hts (.fieldLink RX7 43 "BookOfAll$Reader" "size" "I") (jm m_103)) (fun _ h9 => h9) rfl dX7_stopAt_36 ?_
  refine lv_icmp_ge (tgt := 64) hx hb dX7_stopAt_39 (by decide) (fun _ => ?_) (fun z => absurd (by decide) z)
  refine lv_iload_n hx hb dX7_stopAt_64 rfl (lv_at hl 0 rfl) ?_
  exact W.iret (v := 1) hx hb hr (fun t ht hW => ⟨⟨1, (), rfl, rfl, trivial⟩, hS.F ht⟩) hS.2.2 dX7_stopAt_65
set_option maxHeartbeats 500000 in
set_option maxRecDepth 100000 in
theorem kX7_addToken_2 (l : Launch) (dC : Nat → ClassId) (dI : Nat → Nat → Nat) (sz : Nat) (ad : Nat → Nat) (ca : Nat → ClassId) : Met l yX7_addToken (jk yX7_addToken cX7_addToken 4 none) ({ frames := 0, cells := 0, slots := 0, locals := 0 }) (va_Pc [.ref (ad 1), .int 0, .int 0, .int 1] (jw_P (dC, dI) (xW ad ca) (xT ca) sz)) (va_Qv (fun (_ : Unit) => True) (fun _ t => va_P (dC, dI) vwCl ((jS (jS (jS (jS (jS (xW ad ca) 1 (ad 1, .inr (7, [.ref (ad 2), .int 0, .ref (ad 3), .ref (ad 4), .ref (ad 5), .ref (ad 6), .int 1, .int 0, .int 0, .ref (ad 7), .int 0, .ref (ad 8), .ref (ad 9), .ref (ad 10), .int 0]))) 3 (ad 3, .inl ((ca 3), 601, .inl (upd (fun _ => 0) 0 0)))) 4 (ad 4, .inl ((ca 4), 601, .inl (upd (fun _ => 0) 0 0)))) 5 (ad 5, .inl ((ca 5), 601, .inl (upd (fun _ => 0) 0 1)))) 6 (ad 6, .inl ((ca 6), 601, .inl (upd (fun _ => 0) 0 (-1)))))) t.heap ∧ va_K (dC, dI) vwCl (xT ca) t ∧ va_D (va_A (xW ad ca) sz) ((jS (jS (jS (jS (jS (xW ad ca) 1 (ad 1, .inr (7, [.ref (ad 2), .int 0, .ref (ad 3), .ref (ad 4), .ref (ad 5), .ref (ad 6), .int 1, .int 0, .int 0, .ref (ad 7), .int 0, .ref (ad 8), .ref (ad 9), .ref (ad 10), .int 0]))) 3 (ad 3, .inl ((ca 3), 601, .inl (upd (fun _ => 0) 0 0)))) 4 (ad 4, .inl ((ca 4), 601, .inl (upd (fun _ => 0) 0 0)))) 5 (ad 5, .inl ((ca 5), 601, .inl (upd (fun _ => 0) 0 1)))) 6 (ad 6, .inl ((ca 6), 601, .inl (upd (fun _ => 0) 0 (-1))))))) (va_A (xW ad ca) sz)) 0 0 (va_A (xW ad ca) sz) := by
  refine Met.ofW (cc := cX7_addToken) (maxL := 4) (ret := none) (by decide) rfl ?_
  intro p e s m args below meth c s₁ B hml hv
  obtain ⟨rfl, hsz, hP, hK, hD0⟩ := hv
  have hx := B.exec
  have hb := B.bytes
  have hr := B.returns
  have hts := atoms_spec (ws := (jk yX7_addToken cX7_addToken 4 none)) B.pre
  have hown : s.vm.findClass RX7 = some m.cls := findClass_of_methodNamed B.named
  have hlocks := B.notSynchronized
  subst hsz
  have hD := hD0.self (sz := s.heap.size)
  generalize hAe : (va_A (xW ad ca) s.heap.size) = A at hD ⊢
  have hA : ∀ q : Nat, s.heap.size ≤ q → A q := fun q h => by rw [← hAe]; exact Or.inr h
  have hS : va_S A s.heap s.heap [] := va_S.rf
  have hP : va_P (dC, dI) vwCl (xW ad ca) s.heap := hP
  have hl := lv_entry ([.ref (ad 1), .int 0, .int 0, .int 1]) (n := 4) (Nat.le_of_ble_eq_true rfl)
  rw [lg_entry_eq]
  generalize (lg_sl ([.ref (ad 1), .int 0, .int 0, .int 1]) ++ List.replicate (4 - (lg_sl ([.ref (ad 1), .int 0, .int 0, .int 1])).length) Slot.unset).toArray = ls at hl ⊢
  have hl : lv_has ls 4 [(0, .ref (ad 1)), (1, .int 0), (2, .int 0), (3, .int 1)] := hl
  refine lv_aload_n hx hb dX7_addToken_0 rfl (lv_at hl 0 rfl) ?_
  refine va_get (D := (dC, dI)) (ci := 7) (v := .int 0) (C := RX7) (T := TX7) (N := 15) hx hb hts (jh hin_RX7) hown hK hP 1 rfl rfl 6 (by decide) (hts (.fieldLink RX7 106 "BookOfAll$Reader" "tokens" "I") (jm m_110)) (fun _ h9 => h9) rfl dX7_addToken_1 ?_
  refine lv_if_lt (tgt := 97) hx hb dX7_addToken_4 (by decide) (fun z => absurd z (by decide)) (fun _ => ?_)
  refine lv_aload_n hx hb dX7_addToken_7 rfl (lv_at hl 0 rfl) ?_
  refine va_get (D := (dC, dI)) (ci := 7) (v := .int 0) (C := RX7) (T := TX7) (N := 15) hx hb hts (jh hin_RX7) hown hK hP 1 rfl rfl 6 (by decide) (hts (.fieldLink RX7 106 "BookOfAll$Reader" "tokens" "I") (jm m_110)) (fun _ h9 => h9) rfl dX7_addToken_8 ?_
  refine lv_aload_n hx hb dX7_addToken_11 rfl (lv_at hl 0 rfl) ?_
  refine va_get (D := (dC, dI)) (ci := 7) (v := .ref (ad 3)) (C := RX7) (T := TX7) (N := 15) hx hb hts (jh hin_RX7) hown hK hP 1 rfl rfl 2 (by decide) (hts (.fieldLink RX7 15 "BookOfAll$Reader" "kinds" "[I") (jm m_123)) (fun _ h9 => h9) rfl dX7_addToken_12 ?_
  refine va_alen (v := 601) hx hb hK hP 3 1 rfl rfl (by decide) dX7_addToken_15 ?_
  refine lv_icmp_ge (tgt := 97) hx hb dX7_addToken_16 (by decide) (fun z => absurd z (by decide)) (fun _ => ?_)
  refine lv_aload_n hx hb dX7_addToken_19 rfl (lv_at hl 0 rfl) ?_
  refine va_get (D := (dC, dI)) (ci := 7) (v := .ref (ad 3)) (C := RX7) (T := TX7) (N := 15) hx hb hts (jh hin_RX7) hown hK hP 1 rfl rfl 2 (by decide) (hts (.fieldLink RX7 15 "BookOfAll$Reader" "kinds" "[I") (jm m_123)) (fun _ h9 => h9) rfl dX7_addToken_20 ?_
  refine lv_aload_n hx hb dX7_addToken_23 rfl (lv_at hl 0 rfl) ?_
  refine va_get (D := (dC, dI)) (ci := 7) (v := .int 0) (C := RX7) (T := TX7) (N := 15) hx hb hts (jh hin_RX7) hown hK hP 1 rfl rfl 6 (by decide) (hts (.fieldLink RX7 106 "BookOfAll$Reader" "tokens" "I") (jm m_110)) (fun _ h9 => h9) rfl dX7_addToken_24 ?_
  refine lv_iload_n hx hb dX7_addToken_27 rfl (lv_at hl 1 rfl) ?_
  refine va_iast hx hb hK hP hD hS 3 1 rfl rfl (vp_in_nI (n := 0) (by decide) (by decide)) dX7_addToken_28 (fun H locs hP hD hS => ?_)
  refine lv_aload_n hx hb dX7_addToken_29 rfl (lv_at hl 0 rfl) ?_
  refine va_get (D := (dC, dI)) (ci := 7) (v := .ref (ad 4)) (C := RX7) (T := TX7) (N := 15) hx hb hts (jh hin_RX7) hown hK hP 1 rfl rfl 3 (by decide) (hts (.fieldLink RX7 19 "BookOfAll$Reader" "starts" "[I") (jm m_124)) (fun _ h9 => h9) rfl dX7_addToken_30 ?_
  refine lv_aload_n hx hb dX7_addToken_33 rfl (lv_at hl 0 rfl) ?_
  refine va_get (D := (dC, dI)) (ci := 7) (v := .int 0) (C := RX7) (T := TX7) (N := 15) hx hb hts (jh hin_RX7) hown hK hP 1 rfl rfl 6 (by decide) (hts (.fieldLink RX7 106 "BookOfAll$Reader" "tokens" "I") (jm m_110)) (fun _ h9 => h9) rfl dX7_addToken_34 ?_
  refine lv_iload_n hx hb dX7_addToken_37 rfl (lv_at hl 2 rfl) ?_
  refine va_iast hx hb hK hP hD hS 4 2 rfl rfl (vp_in_nI (n := 0) (by decide) (by decide)) dX7_addToken_38 (fun H locs hP hD hS => ?_)
  refine lv_aload_n hx hb dX7_addToken_39 rfl (lv_at hl 0 rfl) ?_
  refine va_get (D := (dC, dI)) (ci := 7) (v := .ref (ad 5)) (C := RX7) (T := TX7) (N := 15) hx hb hts (jh hin_RX7) hown hK hP 1 rfl rfl 4 (by decide) (hts (.fieldLink RX7 22 "BookOfAll$Reader" "stops" "[I") (jm m_125)) (fun _ h9 => h9) rfl dX7_addToken_40 ?_
  refine lv_aload_n hx hb dX7_addToken_43 rfl (lv_at hl 0 rfl) ?_
  refine va_get (D := (dC, dI)) (ci := 7) (v := .int 0) (C := RX7) (T := TX7) (N := 15) hx hb hts (jh hin_RX7) hown hK hP 1 rfl rfl 6 (by decide) (hts (.fieldLink RX7 106 "BookOfAll$Reader" "tokens" "I") (jm m_110)) (fun _ h9 => h9) rfl dX7_addToken_44 ?_
  refine lv_iload_n hx hb dX7_addToken_47 rfl (lv_at hl 3 rfl) ?_
  refine va_iast hx hb hK hP hD hS 5 3 rfl rfl (vp_in_nI (n := 0) (by decide) (by decide)) dX7_addToken_48 (fun H locs hP hD hS => ?_)
  refine lv_aload_n hx hb dX7_addToken_49 rfl (lv_at hl 0 rfl) ?_
  refine va_get (D := (dC, dI)) (ci := 7) (v := .ref (ad 6)) (C := RX7) (T := TX7) (N := 15) hx hb hts (jh hin_RX7) hown hK hP 1 rfl rfl 5 (by decide) (hts (.fieldLink RX7 25 "BookOfAll$Reader" "values" "[I") (jm m_126)) (fun _ h9 => h9) rfl dX7_addToken_50 ?_
  refine lv_aload_n hx hb dX7_addToken_53 rfl (lv_at hl 0 rfl) ?_
  refine va_get (D := (dC, dI)) (ci := 7) (v := .int 0) (C := RX7) (T := TX7) (N := 15) hx hb hts (jh hin_RX7) hown hK hP 1 rfl rfl 6 (by decide) (hts (.fieldLink RX7 106 "BookOfAll$Reader" "tokens" "I") (jm m_110)) (fun _ h9 => h9) rfl dX7_addToken_54 ?_
  refine lv_iload_n hx hb dX7_addToken_57 rfl (lv_at hl 1 rfl) ?_
  refine lv_iconst (v := 1) hx hb dX7_addToken_58 (by decide) ?_
  refine lv_icmp_ne (tgt := 71) hx hb dX7_addToken_59 (by decide) (fun _ => ?_) (fun z => absurd z (by decide))
  refine lv_iload_n hx hb dX7_addToken_71 rfl (lv_at hl 1 rfl) ?_
  refine lv_iconst (v := 2) hx hb dX7_addToken_72 (by decide) ?_
  refine lv_icmp_ne (tgt := 85) hx hb dX7_addToken_73 (by decide) (fun _ => ?_) (fun z => absurd z (by decide))
  refine lv_iconst (v := (-1)) hx hb dX7_addToken_85 (by decide) ?_
  refine va_iast hx hb hK hP hD hS 6 4 rfl rfl (vp_in_nI (n := 0) (by decide) (by decide)) dX7_addToken_86 (fun H locs hP hD hS => ?_)
  refine lv_aload_n hx hb dX7_addToken_87 rfl (lv_at hl 0 rfl) ?_
  refine lv_dup hx hb dX7_addToken_88 rfl ?_
  refine va_get (D := (dC, dI)) (ci := 7) (v := .int 0) (C := RX7) (T := TX7) (N := 15) hx hb hts (jh hin_RX7) hown hK hP 1 rfl rfl 6 (by decide) (hts (.fieldLink RX7 106 "BookOfAll$Reader" "tokens" "I") (jm m_110)) (fun _ h9 => h9) rfl dX7_addToken_89 ?_
  refine lv_iconst (v := 1) hx hb dX7_addToken_92 (by decide) ?_
  refine lv_iadd hx hb dX7_addToken_93 ?_
  refine jt_i 1 (by decide) ?_
  refine va_put (D := (dC, dI)) (ci := 7) (v := .int 1) (ty := .int) (C := RX7) (T := TX7) (N := 15) hx hb hts (jh hin_RX7) tyX7 tyX7_ok nmX7 hown hK hP hD hS 1 rfl rfl 6 (by decide) (hts (.fieldLink RX7 106 "BookOfAll$Reader" "tokens" "I") (jm m_110)) (fun _ h9 => h9) rfl (by decide +kernel) rfl rfl (Nat.le_of_ble_eq_true rfl) dX7_addToken_94 (fun H locs hP hD hS => ?_)
  exact W.vret hx hb hr (fun t ht hW => ⟨⟨(), rfl, trivial, by rw [ht]; exact hP, va_K.moved hW.alike hK, hD⟩, hS.F ht⟩) hS.2.2 dX7_addToken_97
set_option maxHeartbeats 500000 in
set_option maxRecDepth 100000 in
theorem kX7_scan_2 (l : Launch) (dC : Nat → ClassId) (dI : Nat → Nat → Nat) (sz : Nat) (ad : Nat → Nat) (ca : Nat → ClassId) : Met l yX7_scan (jk yX7_scan cX7_scan 5 none) ({ frames := 2, cells := 0, slots := 0, locals := 43 }) (va_Pc [.ref (ad 1)] (jw_P (dC, dI) (xW ad ca) (xT ca) sz)) (va_Qv (fun (_ : Unit) => True) (fun _ t => va_P (dC, dI) vwCl ((jS (jS (jS (jS (jS (xW ad ca) 1 (ad 1, .inr (7, [.ref (ad 2), .int 0, .ref (ad 3), .ref (ad 4), .ref (ad 5), .ref (ad 6), .int 1, .int 0, .int 0, .ref (ad 7), .int 0, .ref (ad 8), .ref (ad 9), .ref (ad 10), .int 0]))) 3 (ad 3, .inl ((ca 3), 601, .inl (upd (fun _ => 0) 0 0)))) 4 (ad 4, .inl ((ca 4), 601, .inl (upd (fun _ => 0) 0 0)))) 5 (ad 5, .inl ((ca 5), 601, .inl (upd (fun _ => 0) 0 1)))) 6 (ad 6, .inl ((ca 6), 601, .inl (upd (fun _ => 0) 0 (-1)))))) t.heap ∧ va_K (dC, dI) vwCl (xT ca) t ∧ va_D (va_A (xW ad ca) sz) ((jS (jS (jS (jS (jS (xW ad ca) 1 (ad 1, .inr (7, [.ref (ad 2), .int 0, .ref (ad 3), .ref (ad 4), .ref (ad 5), .ref (ad 6), .int 1, .int 0, .int 0, .ref (ad 7), .int 0, .ref (ad 8), .ref (ad 9), .ref (ad 10), .int 0]))) 3 (ad 3, .inl ((ca 3), 601, .inl (upd (fun _ => 0) 0 0)))) 4 (ad 4, .inl ((ca 4), 601, .inl (upd (fun _ => 0) 0 0)))) 5 (ad 5, .inl ((ca 5), 601, .inl (upd (fun _ => 0) 0 1)))) 6 (ad 6, .inl ((ca 6), 601, .inl (upd (fun _ => 0) 0 (-1))))))) (va_A (xW ad ca) sz)) 0 0 (va_A (xW ad ca) sz) := by
  refine Met.ofW (cc := cX7_scan) (maxL := 5) (ret := none) (by decide) rfl ?_
  intro p e s m args below meth c s₁ B hml hv
  obtain ⟨rfl, hsz, hP, hK, hD0⟩ := hv
  have hx := B.exec
  have hb := B.bytes
  have hr := B.returns
  have hts := atoms_spec (ws := (jk yX7_scan cX7_scan 5 none)) B.pre
  have hown : s.vm.findClass RX7 = some m.cls := findClass_of_methodNamed B.named
  have hlocks := B.notSynchronized
  subst hsz
  have hD := hD0.self (sz := s.heap.size)
  generalize hAe : (va_A (xW ad ca) s.heap.size) = A at hD ⊢
  have hA : ∀ q : Nat, s.heap.size ≤ q → A q := fun q h => by rw [← hAe]; exact Or.inr h
  have hS : va_S A s.heap s.heap [] := va_S.rf
  have hP : va_P (dC, dI) vwCl (xW ad ca) s.heap := hP
  have hl := lv_entry ([.ref (ad 1)]) (n := 5) (Nat.le_of_ble_eq_true rfl)
  rw [lg_entry_eq]
  generalize (lg_sl ([.ref (ad 1)]) ++ List.replicate (5 - (lg_sl ([.ref (ad 1)])).length) Slot.unset).toArray = ls at hl ⊢
  have hl : lv_has ls 5 [(0, .ref (ad 1))] := hl
  refine lv_aload_n hx hb dX7_scan_0 rfl (lv_at hl 0 rfl) ?_
  refine lv_iconst (v := 0) hx hb dX7_scan_1 (by decide) ?_
  refine va_put (D := (dC, dI)) (ci := 7) (v := .int 0) (ty := .int) (C := RX7) (T := TX7) (N := 15) hx hb hts (jh hin_RX7) tyX7 tyX7_ok nmX7 hown hK hP hD hS 1 rfl rfl 6 (by decide) (hts (.fieldLink RX7 106 "BookOfAll$Reader" "tokens" "I") (jm m_110)) (fun _ h9 => h9) rfl (by decide +kernel) rfl rfl (Nat.le_of_ble_eq_true rfl) dX7_scan_2 (fun H locs hP hD hS => ?_)
  refine lv_iconst (v := 0) hx hb dX7_scan_5 (by decide) ?_
  refine lv_istore_n (lv' := [(1, .int 0), (0, .ref (ad 1))]) hx hb dX7_scan_6 rfl hl (by decide) rfl (fun ls hl => ?_)
  refine lv_iconst (v := 1) hx hb dX7_scan_7 (by decide) ?_
  refine lv_istore_n (lv' := [(2, .int 1), (1, .int 0), (0, .ref (ad 1))]) hx hb dX7_scan_8 rfl hl (by decide) rfl (fun ls hl => ?_)
  refine lv_iconst (v := 0) hx hb dX7_scan_9 (by decide) ?_
  refine lv_istore_n (lv' := [(3, .int 0), (2, .int 1), (1, .int 0), (0, .ref (ad 1))]) hx hb dX7_scan_10 rfl hl (by decide) rfl (fun ls hl => ?_)
  refine lv_iload_n hx hb dX7_scan_11 rfl (lv_at hl 0 rfl) ?_
  refine lv_aload_n hx hb dX7_scan_12 rfl (lv_at hl 3 rfl) ?_
  refine va_get (D := (dC, dI)) (ci := 7) (v := .int 0) (C := RX7) (T := TX7) (N := 15) hx hb hts (jh hin_RX7) hown hK hP 1 rfl rfl 1 (by decide) (hts (.fieldLink RX7 43 "BookOfAll$Reader" "size" "I") (jm m_103)) (fun _ h9 => h9) rfl dX7_scan_13 ?_
  refine lv_icmp_gt (tgt := 93) hx hb dX7_scan_16 (by decide) (fun z => absurd z (by decide)) (fun _ => ?_)
  refine lv_iload_n hx hb dX7_scan_19 rfl (lv_at hl 1 rfl) ?_
  refine lv_if_eq (tgt := 93) hx hb dX7_scan_20 (by decide) (fun z => absurd z (by decide)) (fun _ => ?_)
  refine lv_iload_n hx hb dX7_scan_23 rfl (lv_at hl 1 rfl) ?_
  refine lv_iconst (v := 3) hx hb dX7_scan_24 (by decide) ?_
  refine lv_icmp_eq (tgt := 93) hx hb dX7_scan_25 (by decide) (fun z => absurd z (by decide)) (fun _ => ?_)
  refine lv_iload_n hx hb dX7_scan_28 rfl (lv_at hl 2 rfl) ?_
  refine lv_aload_n hx hb dX7_scan_29 rfl (lv_at hl 3 rfl) ?_
  refine va_get (D := (dC, dI)) (ci := 7) (v := .int 0) (C := RX7) (T := TX7) (N := 15) hx hb hts (jh hin_RX7) hown hK hP 1 rfl rfl 1 (by decide) (hts (.fieldLink RX7 43 "BookOfAll$Reader" "size" "I") (jm m_103)) (fun _ h9 => h9) rfl dX7_scan_30 ?_
  refine lv_icmp_ge (tgt := 62) hx hb dX7_scan_33 (by decide) (fun _ => ?_) (fun z => absurd (by decide) z)
  refine lv_aload_n hx hb dX7_scan_62 rfl (lv_at hl 3 rfl) ?_
  refine lv_iload_n hx hb dX7_scan_63 rfl (lv_at hl 2 rfl) ?_
  refine jc_i (va_runV (As := [.int 0]) (rest := []) ⟨hx, hb, hml, hown, hts⟩ (kX7_kindAt_2 l dC dI _ ad ca) (cwV 1 hts (jgoodV m_115 m_116 m_117 m_108 m_118) rfl rfl rfl (by decide +kernel) ⟨Nat.le_of_ble_eq_true rfl, Nat.le_of_ble_eq_true rfl⟩) ⟨jw_blind, va_recv hK hP (ci := 7) (q0 := 1) rfl rfl, fun U hU hW => ⟨rfl, jw_of hU hW hP hK hD⟩⟩ rfl rfl hl.1 rfl (lv_room (Nat.le_of_ble_eq_true rfl)) dX7_scan_64 ⟨Nat.le_of_ble_eq_true rfl, Nat.le_of_ble_eq_true rfl⟩) hP hS hA (fun r_1 H locs hw_1 hP hS => ?_)
  have hw_1 : 0 = r_1 := Eq.symm hw_1
  subst hw_1
  refine lv_istore_n (lv' := [(2, .int 0), (3, .int 0), (1, .int 0), (0, .ref (ad 1))]) hx hb dX7_scan_67 rfl hl (by decide) rfl (fun ls hl => ?_)
  refine lv_aload_n hx hb dX7_scan_68 rfl (lv_at hl 3 rfl) ?_
  refine lv_iload_n hx hb dX7_scan_69 rfl (lv_at hl 2 rfl) ?_
  refine lv_iload_n hx hb dX7_scan_70 rfl (lv_at hl 0 rfl) ?_
  refine jc_i (va_runV (As := [.int 0, .int 0]) (rest := []) ⟨hx, hb, hml, hown, hts⟩ (kX7_stopAt_2 l dC dI _ ad ca) (cwV 2 hts (jgoodV m_119 m_120 m_121 m_108 m_122) rfl rfl rfl (by decide +kernel) ⟨Nat.le_of_ble_eq_true rfl, Nat.le_of_ble_eq_true rfl⟩) ⟨jw_blind, va_recv hK hP (ci := 7) (q0 := 1) rfl rfl, fun U hU hW => ⟨rfl, jw_of hU hW hP hK hD⟩⟩ rfl rfl hl.1 rfl (lv_room (Nat.le_of_ble_eq_true rfl)) dX7_scan_71 ⟨Nat.le_of_ble_eq_true rfl, Nat.le_of_ble_eq_true rfl⟩) hP hS hA (fun r_2 H locs hw_2 hP hS => ?_)
  have hw_2 : 1 = r_2 := Eq.symm hw_2
  subst hw_2
  refine lv_istore (lv' := [(4, .int 1), (2, .int 0), (3, .int 0), (1, .int 0), (0, .ref (ad 1))]) hx hb dX7_scan_74 hl (by decide) rfl (fun ls hl => ?_)
  refine lv_aload_n hx hb dX7_scan_76 rfl (lv_at hl 4 rfl) ?_
  refine lv_iload_n hx hb dX7_scan_77 rfl (lv_at hl 1 rfl) ?_
  refine lv_iload_n hx hb dX7_scan_78 rfl (lv_at hl 3 rfl) ?_
  refine lv_iload hx hb dX7_scan_79 (lv_at hl 0 rfl) ?_
  refine jcw_v (va_runV (As := [.int 0, .int 0, .int 1]) (rest := []) ⟨hx, hb, hml, hown, hts⟩ (kX7_addToken_2 l dC dI _ ad ca) (cwV 3 hts (jgoodV m_127 m_128 m_129 m_108 m_130) rfl rfl rfl (by decide +kernel) ⟨Nat.le_of_ble_eq_true rfl, Nat.le_of_ble_eq_true rfl⟩) ⟨jw_blind, va_recv hK hP (ci := 7) (q0 := 1) rfl rfl, fun U hU hW => ⟨rfl, jw_of hU hW hP hK hD⟩⟩ rfl rfl hl.1 rfl (lv_room (Nat.le_of_ble_eq_true rfl)) dX7_scan_81 ⟨Nat.le_of_ble_eq_true rfl, Nat.le_of_ble_eq_true rfl⟩) hD hS hA (fun H locs hw_3 hP hK hD hS => ?_)
  refine lv_iload hx hb dX7_scan_84 (lv_at hl 0 rfl) ?_
  refine lv_istore_n (lv' := [(1, .int 1), (4, .int 1), (2, .int 0), (3, .int 0), (0, .ref (ad 1))]) hx hb dX7_scan_86 rfl hl (by decide) rfl (fun ls hl => ?_)
  refine lv_iinc (v := 1) (lv' := [(3, .int 1), (1, .int 1), (4, .int 1), (2, .int 0), (0, .ref (ad 1))]) hx hb dX7_scan_87 hl (k := 3) rfl (by decide) (by decide) rfl (fun ls hl => ?_)
  refine lv_goto (tgt := 11) hx hb dX7_scan_90 (by decide) ?_
  refine lv_iload_n hx hb dX7_scan_11 rfl (lv_at hl 0 rfl) ?_
  refine lv_aload_n hx hb dX7_scan_12 rfl (lv_at hl 4 rfl) ?_
  refine va_get (D := (dC, dI)) (ci := 7) (v := .int 0) (C := RX7) (T := TX7) (N := 15) hx hb hts (jh hin_RX7) hown hK hP 1 rfl rfl 1 (by decide) (hts (.fieldLink RX7 43 "BookOfAll$Reader" "size" "I") (jm m_103)) (fun _ h9 => h9) rfl dX7_scan_13 ?_
  refine lv_icmp_gt (tgt := 93) hx hb dX7_scan_16 (by decide) (fun _ => ?_) (fun z => absurd (by decide) z)
  exact W.vret hx hb hr (fun t ht hW => ⟨⟨(), rfl, trivial, by rw [ht]; exact hP, va_K.moved hW.alike hK, hD⟩, hS.F ht⟩) hS.2.2 dX7_scan_93
set_option maxHeartbeats 500000 in
set_option maxRecDepth 100000 in
theorem kX7_kind_2 (l : Launch) (dC : Nat → ClassId) (dI : Nat → Nat → Nat) (sz : Nat) (ad : Nat → Nat) (ca : Nat → ClassId) : Met l yX7_kind (jk yX7_kind cX7_kind 1 (some .int)) ({ frames := 0, cells := 0, slots := 0, locals := 0 }) (va_Pc [.ref (ad 1)] (jw_P (dC, dI) ((jS (jS (jS (jS (jS (jS (xW ad ca) 1 (ad 1, .inr (7, [.ref (ad 2), .int 0, .ref (ad 3), .ref (ad 4), .ref (ad 5), .ref (ad 6), .int 1, .int 0, .int (-1), .ref (ad 7), .int 0, .ref (ad 8), .ref (ad 9), .ref (ad 10), .int 0]))) 3 (ad 3, .inl ((ca 3), 601, .inl (upd (fun _ => 0) 0 0)))) 4 (ad 4, .inl ((ca 4), 601, .inl (upd (fun _ => 0) 0 0)))) 5 (ad 5, .inl ((ca 5), 601, .inl (upd (fun _ => 0) 0 1)))) 6 (ad 6, .inl ((ca 6), 601, .inl (upd (fun _ => 0) 0 (-1))))) 8 (ad 8, .inl ((ca 8), 14, .inl (jfill (fun _ => 0) 14 (-1)))))) (xT ca) sz)) (va_Qi (fun (r : Int32) (_ : Unit) => (r = 0)) (fun _ _ => True) (va_A [] sz)) 0 0 (va_A [] sz) := by
  refine Met.ofW (cc := cX7_kind) (maxL := 1) (ret := (some .int)) (by decide) rfl ?_
  intro p e s m args below meth c s₁ B hml hv
  obtain ⟨rfl, hsz, hP, hK, hD0⟩ := hv
  have hx := B.exec
  have hb := B.bytes
  have hr := B.returns
  have hts := atoms_spec (ws := (jk yX7_kind cX7_kind 1 (some .int))) B.pre
  have hown : s.vm.findClass RX7 = some m.cls := findClass_of_methodNamed B.named
  have hlocks := B.notSynchronized
  subst hsz
  have hD := hD0
  generalize hAe : (va_A [] s.heap.size) = A
  have hA : ∀ q : Nat, s.heap.size ≤ q → A q := fun q h => by rw [← hAe]; exact Or.inr h
  have hS : va_S A s.heap s.heap [] := va_S.rf
  have hP : va_P (dC, dI) vwCl ((jS (jS (jS (jS (jS (jS (xW ad ca) 1 (ad 1, .inr (7, [.ref (ad 2), .int 0, .ref (ad 3), .ref (ad 4), .ref (ad 5), .ref (ad 6), .int 1, .int 0, .int (-1), .ref (ad 7), .int 0, .ref (ad 8), .ref (ad 9), .ref (ad 10), .int 0]))) 3 (ad 3, .inl ((ca 3), 601, .inl (upd (fun _ => 0) 0 0)))) 4 (ad 4, .inl ((ca 4), 601, .inl (upd (fun _ => 0) 0 0)))) 5 (ad 5, .inl ((ca 5), 601, .inl (upd (fun _ => 0) 0 1)))) 6 (ad 6, .inl ((ca 6), 601, .inl (upd (fun _ => 0) 0 (-1))))) 8 (ad 8, .inl ((ca 8), 14, .inl (jfill (fun _ => 0) 14 (-1)))))) s.heap := hP
  have hl := lv_entry ([.ref (ad 1)]) (n := 1) (Nat.le_of_ble_eq_true rfl)
  rw [lg_entry_eq]
  generalize (lg_sl ([.ref (ad 1)]) ++ List.replicate (1 - (lg_sl ([.ref (ad 1)])).length) Slot.unset).toArray = ls at hl ⊢
  have hl : lv_has ls 1 [(0, .ref (ad 1))] := hl
  refine lv_aload_n hx hb dX7_kind_0 rfl (lv_at hl 0 rfl) ?_
  refine va_get (D := (dC, dI)) (ci := 7) (v := .int 0) (C := RX7) (T := TX7) (N := 15) hx hb hts (jh hin_RX7) hown hK hP 1 rfl rfl 7 (by decide) (hts (.fieldLink RX7 53 "BookOfAll$Reader" "next" "I") (jm m_136)) (fun _ h9 => h9) rfl dX7_kind_1 ?_
  refine lv_if_lt (tgt := 42) hx hb dX7_kind_4 (by decide) (fun z => absurd z (by decide)) (fun _ => ?_)
  refine lv_aload_n hx hb dX7_kind_7 rfl (lv_at hl 0 rfl) ?_
  refine va_get (D := (dC, dI)) (ci := 7) (v := .int 0) (C := RX7) (T := TX7) (N := 15) hx hb hts (jh hin_RX7) hown hK hP 1 rfl rfl 7 (by decide) (hts (.fieldLink RX7 53 "BookOfAll$Reader" "next" "I") (jm m_136)) (fun _ h9 => h9) rfl dX7_kind_8 ?_
  refine lv_aload_n hx hb dX7_kind_11 rfl (lv_at hl 0 rfl) ?_
  refine va_get (D := (dC, dI)) (ci := 7) (v := .int 1) (C := RX7) (T := TX7) (N := 15) hx hb hts (jh hin_RX7) hown hK hP 1 rfl rfl 6 (by decide) (hts (.fieldLink RX7 106 "BookOfAll$Reader" "tokens" "I") (jm m_110)) (fun _ h9 => h9) rfl dX7_kind_12 ?_
  refine lv_icmp_ge (tgt := 42) hx hb dX7_kind_15 (by decide) (fun z => absurd z (by decide)) (fun _ => ?_)
  refine lv_aload_n hx hb dX7_kind_18 rfl (lv_at hl 0 rfl) ?_
  refine va_get (D := (dC, dI)) (ci := 7) (v := .int 0) (C := RX7) (T := TX7) (N := 15) hx hb hts (jh hin_RX7) hown hK hP 1 rfl rfl 7 (by decide) (hts (.fieldLink RX7 53 "BookOfAll$Reader" "next" "I") (jm m_136)) (fun _ h9 => h9) rfl dX7_kind_19 ?_
  refine lv_aload_n hx hb dX7_kind_22 rfl (lv_at hl 0 rfl) ?_
  refine va_get (D := (dC, dI)) (ci := 7) (v := .ref (ad 3)) (C := RX7) (T := TX7) (N := 15) hx hb hts (jh hin_RX7) hown hK hP 1 rfl rfl 2 (by decide) (hts (.fieldLink RX7 15 "BookOfAll$Reader" "kinds" "[I") (jm m_123)) (fun _ h9 => h9) rfl dX7_kind_23 ?_
  refine va_alen (v := 601) hx hb hK hP 3 1 rfl rfl (by decide) dX7_kind_26 ?_
  refine lv_icmp_ge (tgt := 42) hx hb dX7_kind_27 (by decide) (fun z => absurd z (by decide)) (fun _ => ?_)
  refine lv_aload_n hx hb dX7_kind_30 rfl (lv_at hl 0 rfl) ?_
  refine va_get (D := (dC, dI)) (ci := 7) (v := .ref (ad 3)) (C := RX7) (T := TX7) (N := 15) hx hb hts (jh hin_RX7) hown hK hP 1 rfl rfl 2 (by decide) (hts (.fieldLink RX7 15 "BookOfAll$Reader" "kinds" "[I") (jm m_123)) (fun _ h9 => h9) rfl dX7_kind_31 ?_
  refine lv_aload_n hx hb dX7_kind_34 rfl (lv_at hl 0 rfl) ?_
  refine va_get (D := (dC, dI)) (ci := 7) (v := .int 0) (C := RX7) (T := TX7) (N := 15) hx hb hts (jh hin_RX7) hown hK hP 1 rfl rfl 7 (by decide) (hts (.fieldLink RX7 53 "BookOfAll$Reader" "next" "I") (jm m_136)) (fun _ h9 => h9) rfl dX7_kind_35 ?_
  refine va_iald hx hb hK hP 3 1 rfl rfl (vp_in_nI (n := 0) (by decide) (by decide)) dX7_kind_38 ?_
  refine jt_i 0 (by decide) ?_
  refine lv_goto (tgt := 43) hx hb dX7_kind_39 (by decide) ?_
  exact W.iret (v := 0) hx hb hr (fun t ht hW => ⟨⟨0, (), rfl, rfl, trivial⟩, hS.F ht⟩) hS.2.2 dX7_kind_43
set_option maxHeartbeats 500000 in
set_option maxRecDepth 100000 in
theorem kX7_parse_2 (l : Launch) (dC : Nat → ClassId) (dI : Nat → Nat → Nat) (sz : Nat) (ad : Nat → Nat) (ca : Nat → ClassId) : Met l yX7_parse (jk yX7_parse cX7_parse 2 (some .int)) ({ frames := 3, cells := 0, slots := 0, locals := 67 }) (va_Pc [.ref (ad 1)] (jw_P (dC, dI) (xW ad ca) (xT ca) sz)) (va_Qi (fun (r : Int32) (_ : Unit) => (r = (-1))) (fun _ t => va_P (dC, dI) vwCl ((jS (jS (jS (jS (jS (jS (xW ad ca) 1 (ad 1, .inr (7, [.ref (ad 2), .int 0, .ref (ad 3), .ref (ad 4), .ref (ad 5), .ref (ad 6), .int 1, .int 0, .int (-1), .ref (ad 7), .int 0, .ref (ad 8), .ref (ad 9), .ref (ad 10), .int 0]))) 3 (ad 3, .inl ((ca 3), 601, .inl (upd (fun _ => 0) 0 0)))) 4 (ad 4, .inl ((ca 4), 601, .inl (upd (fun _ => 0) 0 0)))) 5 (ad 5, .inl ((ca 5), 601, .inl (upd (fun _ => 0) 0 1)))) 6 (ad 6, .inl ((ca 6), 601, .inl (upd (fun _ => 0) 0 (-1))))) 8 (ad 8, .inl ((ca 8), 14, .inl (jfill (fun _ => 0) 14 (-1)))))) t.heap ∧ va_K (dC, dI) vwCl (xT ca) t ∧ va_D (va_A (xW ad ca) sz) ((jS (jS (jS (jS (jS (jS (xW ad ca) 1 (ad 1, .inr (7, [.ref (ad 2), .int 0, .ref (ad 3), .ref (ad 4), .ref (ad 5), .ref (ad 6), .int 1, .int 0, .int (-1), .ref (ad 7), .int 0, .ref (ad 8), .ref (ad 9), .ref (ad 10), .int 0]))) 3 (ad 3, .inl ((ca 3), 601, .inl (upd (fun _ => 0) 0 0)))) 4 (ad 4, .inl ((ca 4), 601, .inl (upd (fun _ => 0) 0 0)))) 5 (ad 5, .inl ((ca 5), 601, .inl (upd (fun _ => 0) 0 1)))) 6 (ad 6, .inl ((ca 6), 601, .inl (upd (fun _ => 0) 0 (-1))))) 8 (ad 8, .inl ((ca 8), 14, .inl (jfill (fun _ => 0) 14 (-1))))))) (va_A (xW ad ca) sz)) 0 0 (va_A (xW ad ca) sz) := by
  refine Met.ofW (cc := cX7_parse) (maxL := 2) (ret := (some .int)) (by decide) rfl ?_
  intro p e s m args below meth c s₁ B hml hv
  obtain ⟨rfl, hsz, hP, hK, hD0⟩ := hv
  have hx := B.exec
  have hb := B.bytes
  have hr := B.returns
  have hts := atoms_spec (ws := (jk yX7_parse cX7_parse 2 (some .int))) B.pre
  have hown : s.vm.findClass RX7 = some m.cls := findClass_of_methodNamed B.named
  have hlocks := B.notSynchronized
  subst hsz
  have hD := hD0.self (sz := s.heap.size)
  generalize hAe : (va_A (xW ad ca) s.heap.size) = A at hD ⊢
  have hA : ∀ q : Nat, s.heap.size ≤ q → A q := fun q h => by rw [← hAe]; exact Or.inr h
  have hS : va_S A s.heap s.heap [] := va_S.rf
  have hP : va_P (dC, dI) vwCl (xW ad ca) s.heap := hP
  have hl := lv_entry ([.ref (ad 1)]) (n := 2) (Nat.le_of_ble_eq_true rfl)
  rw [lg_entry_eq]
  generalize (lg_sl ([.ref (ad 1)]) ++ List.replicate (2 - (lg_sl ([.ref (ad 1)])).length) Slot.unset).toArray = ls at hl ⊢
  have hl : lv_has ls 2 [(0, .ref (ad 1))] := hl
  refine lv_aload_n hx hb dX7_parse_0 rfl (lv_at hl 0 rfl) ?_
  refine jcw_v (va_runV (As := []) (rest := []) ⟨hx, hb, hml, hown, hts⟩ (kX7_scan_2 l dC dI _ ad ca) (cwV 0 hts (jgoodV m_131 m_132 m_133 m_108 m_134) rfl rfl rfl (by decide +kernel) ⟨Nat.le_of_ble_eq_true rfl, Nat.le_of_ble_eq_true rfl⟩) ⟨jw_blind, va_recv hK hP (ci := 7) (q0 := 1) rfl rfl, fun U hU hW => ⟨rfl, jw_of hU hW hP hK hD⟩⟩ rfl rfl hl.1 rfl (lv_room (Nat.le_of_ble_eq_true rfl)) dX7_parse_1 ⟨Nat.le_of_ble_eq_true rfl, Nat.le_of_ble_eq_true rfl⟩) hD hS hA (fun H locs hw_1 hP hK hD hS => ?_)
  refine lv_aload_n hx hb dX7_parse_4 rfl (lv_at hl 0 rfl) ?_
  refine lv_iconst (v := (-1)) hx hb dX7_parse_5 (by decide) ?_
  refine va_put (D := (dC, dI)) (ci := 7) (v := .int (-1)) (ty := .int) (C := RX7) (T := TX7) (N := 15) hx hb hts (jh hin_RX7) tyX7 tyX7_ok nmX7 hown hK hP hD hS 1 rfl rfl 8 (by decide) (hts (.fieldLink RX7 50 "BookOfAll$Reader" "fault" "I") (jm m_135)) (fun _ h9 => h9) rfl (by decide +kernel) rfl rfl (Nat.le_of_ble_eq_true rfl) dX7_parse_6 (fun H locs hP hD hS => ?_)
  refine lv_aload_n hx hb dX7_parse_9 rfl (lv_at hl 0 rfl) ?_
  refine lv_iconst (v := 0) hx hb dX7_parse_10 (by decide) ?_
  refine va_put (D := (dC, dI)) (ci := 7) (v := .int 0) (ty := .int) (C := RX7) (T := TX7) (N := 15) hx hb hts (jh hin_RX7) tyX7 tyX7_ok nmX7 hown hK hP hD hS 1 rfl rfl 7 (by decide) (hts (.fieldLink RX7 53 "BookOfAll$Reader" "next" "I") (jm m_136)) (fun _ h9 => h9) rfl (by decide +kernel) rfl rfl (Nat.le_of_ble_eq_true rfl) dX7_parse_11 (fun H locs hP hD hS => ?_)
  refine lv_aload_n hx hb dX7_parse_14 rfl (lv_at hl 0 rfl) ?_
  refine lv_iconst (v := 0) hx hb dX7_parse_15 (by decide) ?_
  refine va_put (D := (dC, dI)) (ci := 7) (v := .int 0) (ty := .int) (C := RX7) (T := TX7) (N := 15) hx hb hts (jh hin_RX7) tyX7 tyX7_ok nmX7 hown hK hP hD hS 1 rfl rfl 10 (by decide) (hts (.fieldLink RX7 56 "BookOfAll$Reader" "codeSize" "I") (jm m_137)) (fun _ h9 => h9) rfl (by decide +kernel) rfl rfl (Nat.le_of_ble_eq_true rfl) dX7_parse_16 (fun H locs hP hD hS => ?_)
  refine lv_aload_n hx hb dX7_parse_19 rfl (lv_at hl 0 rfl) ?_
  refine lv_iconst (v := 0) hx hb dX7_parse_20 (by decide) ?_
  refine va_put (D := (dC, dI)) (ci := 7) (v := .int 0) (ty := .int) (C := RX7) (T := TX7) (N := 15) hx hb hts (jh hin_RX7) tyX7 tyX7_ok nmX7 hown hK hP hD hS 1 rfl rfl 14 (by decide) (hts (.fieldLink RX7 59 "BookOfAll$Reader" "wordCount" "I") (jm m_138)) (fun _ h9 => h9) rfl (by decide +kernel) rfl rfl (Nat.le_of_ble_eq_true rfl) dX7_parse_21 (fun H locs hP hD hS => ?_)
  refine lv_aload_n hx hb dX7_parse_24 rfl (lv_at hl 0 rfl) ?_
  refine va_get (D := (dC, dI)) (ci := 7) (v := .ref (ad 8)) (C := RX7) (T := TX7) (N := 15) hx hb hts (jh hin_RX7) hown hK hP 1 rfl rfl 11 (by decide) (hts (.fieldLink RX7 33 "BookOfAll$Reader" "from" "[I") (jm m_139)) (fun _ h9 => h9) rfl dX7_parse_25 ?_
  refine lv_iconst (v := (-1)) hx hb dX7_parse_28 (by decide) ?_
  refine jc1_v (k := 8) (va_runS (As := [.ref (ad 8), .int (-1)]) (rest := []) ⟨hx, hb, hml, hown, hts⟩ (kfill l dC dI _ (ad 8) 14 (ca 8) (fun _ => 0) (-1) (by decide)) (va_cwS 2 hts (jgoodS m_140 m_141 m_142 m_143) rfl rfl rfl (by decide +kernel) ⟨(Nat.le_of_ble_eq_true rfl), (Nat.le_of_ble_eq_true rfl)⟩) ⟨jw_blind, fun U hU hW => ⟨rfl, jw_of hU hW (jp_at hP 8 rfl) (hK.sub [6] rfl) (jd_at hD 8 rfl)⟩⟩ rfl rfl hl.1 rfl (lv_room (Nat.le_of_ble_eq_true rfl)) dX7_parse_29 ⟨(Nat.le_of_ble_eq_true rfl), (Nat.le_of_ble_eq_true rfl)⟩) hP hD rfl hS hA (fun H locs hP hD hS => ?_)
  refine lv_iconst (v := 0) hx hb dX7_parse_32 (by decide) ?_
  refine lv_istore_n (lv' := [(1, .int 0), (0, .ref (ad 1))]) hx hb dX7_parse_33 rfl hl (by decide) rfl (fun ls hl => ?_)
  refine lv_iload_n hx hb dX7_parse_34 rfl (lv_at hl 0 rfl) ?_
  refine lv_aload_n hx hb dX7_parse_35 rfl (lv_at hl 1 rfl) ?_
  refine va_get (D := (dC, dI)) (ci := 7) (v := .int 0) (C := RX7) (T := TX7) (N := 15) hx hb hts (jh hin_RX7) hown hK hP 1 rfl rfl 1 (by decide) (hts (.fieldLink RX7 43 "BookOfAll$Reader" "size" "I") (jm m_103)) (fun _ h9 => h9) rfl dX7_parse_36 ?_
  refine lv_icmp_gt (tgt := 67) hx hb dX7_parse_39 (by decide) (fun z => absurd z (by decide)) (fun _ => ?_)
  refine lv_aload_n hx hb dX7_parse_42 rfl (lv_at hl 1 rfl) ?_
  refine va_get (D := (dC, dI)) (ci := 7) (v := .int (-1)) (C := RX7) (T := TX7) (N := 15) hx hb hts (jh hin_RX7) hown hK hP 1 rfl rfl 8 (by decide) (hts (.fieldLink RX7 50 "BookOfAll$Reader" "fault" "I") (jm m_135)) (fun _ h9 => h9) rfl dX7_parse_43 ?_
  refine lv_iconst (v := (-1)) hx hb dX7_parse_46 (by decide) ?_
  refine lv_icmp_ne (tgt := 67) hx hb dX7_parse_47 (by decide) (fun z => absurd (by decide) z) (fun _ => ?_)
  refine lv_aload_n hx hb dX7_parse_50 rfl (lv_at hl 1 rfl) ?_
  refine jc_i (va_runV (As := []) (rest := []) ⟨hx, hb, hml, hown, hts⟩ (kX7_kind_2 l dC dI _ ad ca) (cwV 0 hts (jgoodV m_144 m_145 m_146 m_108 m_147) rfl rfl rfl (by decide +kernel) ⟨Nat.le_of_ble_eq_true rfl, Nat.le_of_ble_eq_true rfl⟩) ⟨jw_blind, va_recv hK hP (ci := 7) (q0 := 1) rfl rfl, fun U hU hW => ⟨rfl, jw_of hU hW hP hK hD⟩⟩ rfl rfl hl.1 rfl (lv_room (Nat.le_of_ble_eq_true rfl)) dX7_parse_51 ⟨Nat.le_of_ble_eq_true rfl, Nat.le_of_ble_eq_true rfl⟩) hP hS hA (fun r_2 H locs hw_2 hP hS => ?_)
  have hw_2 : 0 = r_2 := Eq.symm hw_2
  subst hw_2
  refine lv_if_eq (tgt := 67) hx hb dX7_parse_54 (by decide) (fun _ => ?_) (fun z => absurd (by decide) z)
  refine lv_aload_n hx hb dX7_parse_67 rfl (lv_at hl 1 rfl) ?_
  refine va_get (D := (dC, dI)) (ci := 7) (v := .int (-1)) (C := RX7) (T := TX7) (N := 15) hx hb hts (jh hin_RX7) hown hK hP 1 rfl rfl 8 (by decide) (hts (.fieldLink RX7 50 "BookOfAll$Reader" "fault" "I") (jm m_135)) (fun _ h9 => h9) rfl dX7_parse_68 ?_
  exact W.iret (v := (-1)) hx hb hr (fun t ht hW => ⟨⟨(-1), (), rfl, rfl, by rw [ht]; exact hP, va_K.moved hW.alike hK, hD⟩, hS.F ht⟩) hS.2.2 dX7_parse_71
set_option maxHeartbeats 500000 in
set_option maxRecDepth 100000 in
theorem tX12_fault (l : Launch) (dC : Nat → ClassId) (dI : Nat → Nat → Nat) (sz : Nat) (ad : Nat → Nat) (ca : Nat → ClassId) : Met l yX12_fault (jk yX12_fault cX12_fault 1 (some .int)) ({ frames := 4, cells := 0, slots := 0, locals := 88 }) (va_Pc [.ref (ad 0)] (jw_P (dC, dI) (xW ad ca) (xT ca) sz)) (va_Qi (fun (r : Int32) (_ : Unit) => (r = (-1))) (fun _ _ => True) (va_A (xW ad ca) sz)) 0 0 (va_A (xW ad ca) sz) := by
  refine Met.ofW (cc := cX12_fault) (maxL := 1) (ret := (some .int)) (by decide) rfl ?_
  intro p e s m args below meth c s₁ B hml hv
  obtain ⟨rfl, hsz, hP, hK, hD0⟩ := hv
  have hx := B.exec
  have hb := B.bytes
  have hr := B.returns
  have hts := atoms_spec (ws := (jk yX12_fault cX12_fault 1 (some .int))) B.pre
  have hown : s.vm.findClass RX12 = some m.cls := findClass_of_methodNamed B.named
  have hlocks := B.notSynchronized
  subst hsz
  have hD := hD0.self (sz := s.heap.size)
  generalize hAe : (va_A (xW ad ca) s.heap.size) = A at hD ⊢
  have hA : ∀ q : Nat, s.heap.size ≤ q → A q := fun q h => by rw [← hAe]; exact Or.inr h
  have hS : va_S A s.heap s.heap [] := va_S.rf
  have hP : va_P (dC, dI) vwCl (xW ad ca) s.heap := hP
  have hl := lv_entry ([.ref (ad 0)]) (n := 1) (Nat.le_of_ble_eq_true rfl)
  rw [lg_entry_eq]
  generalize (lg_sl ([.ref (ad 0)]) ++ List.replicate (1 - (lg_sl ([.ref (ad 0)])).length) Slot.unset).toArray = ls at hl ⊢
  have hl : lv_has ls 1 [(0, .ref (ad 0))] := hl
  refine lv_aload_n hx hb dX12_fault_0 rfl (lv_at hl 0 rfl) ?_
  refine va_get (D := (dC, dI)) (ci := 12) (v := .ref (ad 1)) (C := RX12) (T := TX12) (N := 20) hx hb hts (jh hin_RX12) hown hK hP 0 rfl rfl 2 (by decide) (hts (.fieldLink RX12 10 "BookOfAll" "reader" "LBookOfAll$Reader;") (jm m_101)) (fun _ h9 => h9) rfl dX12_fault_1 ?_
  refine jcw_i (va_runV (As := []) (rest := []) ⟨hx, hb, hml, hown, hts⟩ (kX7_parse_2 l dC dI _ ad ca) (cwV 0 hts (jgoodV m_148 m_149 m_150 m_108 m_151) rfl rfl rfl (by decide +kernel) ⟨Nat.le_of_ble_eq_true rfl, Nat.le_of_ble_eq_true rfl⟩) ⟨jw_blind, va_recv hK hP (ci := 7) (q0 := 1) rfl rfl, fun U hU hW => ⟨rfl, jw_of hU hW hP hK hD⟩⟩ rfl rfl hl.1 rfl (lv_room (Nat.le_of_ble_eq_true rfl)) dX12_fault_4 ⟨Nat.le_of_ble_eq_true rfl, Nat.le_of_ble_eq_true rfl⟩) hD hS hA (fun r_1 H locs hw_1 hP hK hD hS => ?_)
  have hw_1 : (-1) = r_1 := Eq.symm hw_1
  subst hw_1
  exact W.iret (v := (-1)) hx hb hr (fun t ht hW => ⟨⟨(-1), (), rfl, rfl, trivial⟩, hS.F ht⟩) hS.2.2 dX12_fault_7
