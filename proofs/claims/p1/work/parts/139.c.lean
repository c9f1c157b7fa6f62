theorem s_tX12_steal_0 {p1 : Int32} (c_1 : p1 < 0) : (-1) = sp_steal p1 := by
  unfold sp_steal
  have g0 : p1.toInt < 0 := ji_lt.mp c_1
  split <;> first | rfl | (exfalso; omega)
theorem s_tX12_steal_1 {p1 : Int32} (c_1 : ¬ (p1 < 0)) (c_2 : p1 ≤ 999) : 1 = sp_steal p1 := by
  unfold sp_steal
  have g0 : ¬ (p1.toInt < 0) := fun z => c_1 (ji_lt.mpr z)
  have g1 : p1.toInt ≤ 999 := ji_le.mp c_2
  split <;> first | rfl | (exfalso; omega)
theorem s_tX12_steal_2 {p1 : Int32} (c_1 : ¬ (p1 < 0)) (c_2 : ¬ (p1 ≤ 999)) : (-1) = sp_steal p1 := by
  unfold sp_steal
  have g0 : ¬ (p1.toInt < 0) := fun z => c_1 (ji_lt.mpr z)
  have g1 : ¬ (p1.toInt ≤ 999) := fun z => c_2 (ji_le.mpr z)
  split <;> first | rfl | (exfalso; omega)
set_option maxHeartbeats 500000 in
set_option maxRecDepth 100000 in
theorem tX12_steal (l : Launch) (dC : Nat → ClassId) (dI : Nat → Nat → Nat) (sz : Nat) (ad : Nat → Nat) (ca : Nat → ClassId) (p1 : Int32) : Met l yX12_steal (jk yX12_steal cX12_steal 2 (some .int)) ({ frames := 1, cells := 0, slots := 0, locals := 21 }) (va_Pc [.ref (ad 0), .int p1] (jw_P (dC, dI) (xW ad ca) (xT ca) sz)) (va_Qi (fun (r : Int32) (_ : Unit) => r = sp_steal p1) (fun _ _ => True) (va_A (xW ad ca) sz)) 0 0 (va_A (xW ad ca) sz) := by
  refine Met.ofW (cc := cX12_steal) (maxL := 2) (ret := (some .int)) (by decide) rfl ?_
  intro p e s m args below meth c s₁ B hml hv
  obtain ⟨rfl, hsz, hP, hK, hD0⟩ := hv
  have hx := B.exec
  have hb := B.bytes
  have hr := B.returns
  have hts := atoms_spec (ws := (jk yX12_steal cX12_steal 2 (some .int))) B.pre
  have hown : s.vm.findClass RX12 = some m.cls := findClass_of_methodNamed B.named
  have hlocks := B.notSynchronized
  subst hsz
  have hD := hD0.self (sz := s.heap.size)
  generalize hAe : (va_A (xW ad ca) s.heap.size) = A at hD ⊢
  have hA : ∀ q : Nat, s.heap.size ≤ q → A q := fun q h => by rw [← hAe]; exact Or.inr h
  have hS : va_S A s.heap s.heap [] := va_S.rf
  have hP : va_P (dC, dI) vwCl (xW ad ca) s.heap := hP
  have hl := lv_entry ([.ref (ad 0), .int p1]) (n := 2) (Nat.le_of_ble_eq_true rfl)
  rw [lg_entry_eq]
  generalize (lg_sl ([.ref (ad 0), .int p1]) ++ List.replicate (2 - (lg_sl ([.ref (ad 0), .int p1])).length) Slot.unset).toArray = ls at hl ⊢
  have hl : lv_has ls 2 [(0, .ref (ad 0)), (1, .int p1)] := hl
  refine lv_iload_n hx hb dX12_steal_0 rfl (lv_at hl 1 rfl) ?_
  refine lv_if_lt (tgt := 11) hx hb dX12_steal_1 (by decide) (fun c_1 => ?_) (fun c_1 => ?_)
  · refine lv_iconst (v := (-1)) hx hb dX12_steal_11 (by decide) ?_
    refine lv_goto (tgt := 23) hx hb dX12_steal_12 (by decide) ?_
    exact W.iret (v := (-1)) hx hb hr (fun t ht hW => ⟨⟨(-1), (), rfl, (s_tX12_steal_0 (p1 := p1) c_1), trivial⟩, hS.F ht⟩) hS.2.2 dX12_steal_23
  · refine lv_iload_n hx hb dX12_steal_4 rfl (lv_at hl 1 rfl) ?_
    refine lv_sipush (v := 999) hx hb dX12_steal_5 (by decide) ?_
    refine lv_icmp_le (tgt := 15) hx hb dX12_steal_8 (by decide) (fun c_2 => ?_) (fun c_2 => ?_)
    · refine lv_aload_n hx hb dX12_steal_15 rfl (lv_at hl 0 rfl) ?_
      refine va_get (D := (dC, dI)) (ci := 12) (v := .ref (ad 70)) (C := RX12) (T := TX12) (N := 20) hx hb hts (jh hin_RX12) hown hK hP 0 rfl rfl 19 (by decide) (hts (.fieldLink RX12 99 "BookOfAll" "robber" "LBookOfAll$Thief;") (jm m_473)) (fun _ h9 => h9) rfl dX12_steal_16 ?_
      refine lv_iload_n hx hb dX12_steal_19 rfl (lv_at hl 1 rfl) ?_
      refine jcw_i (va_runV (As := [.int p1]) (rest := []) ⟨hx, hb, hml, hown, hts⟩ (kX10_add_3 l dC dI _ ad ca p1) (cwV 1 hts (jgoodV m_476 m_477 m_478 m_479 m_480) rfl rfl rfl (by decide +kernel) ⟨Nat.le_of_ble_eq_true rfl, Nat.le_of_ble_eq_true rfl⟩) ⟨jw_blind, va_recv hK hP (ci := 10) (q0 := 70) rfl rfl, fun U hU hW => ⟨rfl, jw_of hU hW hP hK hD⟩⟩ rfl rfl hl.1 rfl (lv_room (Nat.le_of_ble_eq_true rfl)) dX12_steal_20 ⟨Nat.le_of_ble_eq_true rfl, Nat.le_of_ble_eq_true rfl⟩) hD hS hA (fun r_3 H locs hw_3 hP hK hD hS => ?_)
      have hw_3 : 1 = r_3 := Eq.symm hw_3
      subst hw_3
      exact W.iret (v := 1) hx hb hr (fun t ht hW => ⟨⟨1, (), rfl, (s_tX12_steal_1 (p1 := p1) c_1 c_2), trivial⟩, hS.F ht⟩) hS.2.2 dX12_steal_23
    · refine lv_iconst (v := (-1)) hx hb dX12_steal_11 (by decide) ?_
      refine lv_goto (tgt := 23) hx hb dX12_steal_12 (by decide) ?_
      exact W.iret (v := (-1)) hx hb hr (fun t ht hW => ⟨⟨(-1), (), rfl, (s_tX12_steal_2 (p1 := p1) c_1 c_2), trivial⟩, hS.F ht⟩) hS.2.2 dX12_steal_23
set_option maxHeartbeats 500000 in
set_option maxRecDepth 100000 in
theorem tX12_forget (l : Launch) (dC : Nat → ClassId) (dI : Nat → Nat → Nat) (sz : Nat) (ad : Nat → Nat) (ca : Nat → ClassId) : Met l yX12_forget (jk yX12_forget cX12_forget 2 (some .int)) ({ frames := 0, cells := 0, slots := 0, locals := 0 }) (va_Pc [.ref (ad 0)] (jw_P (dC, dI) (xW ad ca) (xT ca) sz)) (va_Qi (fun (r : Int32) (_ : Unit) => (r = 0)) (fun _ _ => True) (va_A (xW ad ca) sz)) 0 0 (va_A (xW ad ca) sz) := by
  refine Met.ofW (cc := cX12_forget) (maxL := 2) (ret := (some .int)) (by decide) rfl ?_
  intro p e s m args below meth c s₁ B hml hv
  obtain ⟨rfl, hsz, hP, hK, hD0⟩ := hv
  have hx := B.exec
  have hb := B.bytes
  have hr := B.returns
  have hts := atoms_spec (ws := (jk yX12_forget cX12_forget 2 (some .int))) B.pre
  have hown : s.vm.findClass RX12 = some m.cls := findClass_of_methodNamed B.named
  have hlocks := B.notSynchronized
  subst hsz
  have hD := hD0.self (sz := s.heap.size)
  generalize hAe : (va_A (xW ad ca) s.heap.size) = A at hD ⊢
  have hA : ∀ q : Nat, s.heap.size ≤ q → A q := fun q h => by rw [← hAe]; exact Or.inr h
  have hS : va_S A s.heap s.heap [] := va_S.rf
  have hP : va_P (dC, dI) vwCl (xW ad ca) s.heap := hP
  have hl := lv_entry ([.ref (ad 0)]) (n := 2) (Nat.le_of_ble_eq_true rfl)
  rw [lg_entry_eq]
  generalize (lg_sl ([.ref (ad 0)]) ++ List.replicate (2 - (lg_sl ([.ref (ad 0)])).length) Slot.unset).toArray = ls at hl ⊢
  have hl : lv_has ls 2 [(0, .ref (ad 0))] := hl
  refine lv_aload_n hx hb dX12_forget_0 rfl (lv_at hl 0 rfl) ?_
  refine va_get (D := (dC, dI)) (ci := 12) (v := .ref (ad 70)) (C := RX12) (T := TX12) (N := 20) hx hb hts (jh hin_RX12) hown hK hP 0 rfl rfl 19 (by decide) (hts (.fieldLink RX12 99 "BookOfAll" "robber" "LBookOfAll$Thief;") (jm m_473)) (fun _ h9 => h9) rfl dX12_forget_1 ?_
  refine va_get (D := (dC, dI)) (ci := 10) (v := .int 0) (C := RX10) (T := TX10) (N := 3) hx hb hts (jh hin_RX10) hown hK hP 70 rfl rfl 1 (by decide) (hts (.fieldLink RX12 574 "BookOfAll$Thief" "size" "I") (jm m_481)) (fun _ h9 => h9) rfl dX12_forget_4 ?_
  refine lv_istore_n (lv' := [(1, .int 0), (0, .ref (ad 0))]) hx hb dX12_forget_7 rfl hl (by decide) rfl (fun ls hl => ?_)
  refine lv_aload_n hx hb dX12_forget_8 rfl (lv_at hl 1 rfl) ?_
  refine va_get (D := (dC, dI)) (ci := 12) (v := .ref (ad 70)) (C := RX12) (T := TX12) (N := 20) hx hb hts (jh hin_RX12) hown hK hP 0 rfl rfl 19 (by decide) (hts (.fieldLink RX12 99 "BookOfAll" "robber" "LBookOfAll$Thief;") (jm m_473)) (fun _ h9 => h9) rfl dX12_forget_9 ?_
  refine lv_iconst (v := 0) hx hb dX12_forget_12 (by decide) ?_
  refine va_put (D := (dC, dI)) (ci := 10) (v := .int 0) (ty := .int) (C := RX10) (T := TX10) (N := 3) hx hb hts (jh hin_RX10) tyX10 tyX10_ok nmX10 hown hK hP hD hS 70 rfl rfl 1 (by decide) (hts (.fieldLink RX12 574 "BookOfAll$Thief" "size" "I") (jm m_481)) (fun _ h9 => h9) rfl (by decide +kernel) rfl rfl (Nat.le_of_ble_eq_true rfl) dX12_forget_13 (fun H locs hP hD hS => ?_)
  refine lv_iload_n hx hb dX12_forget_16 rfl (lv_at hl 0 rfl) ?_
  exact W.iret (v := 0) hx hb hr (fun t ht hW => ⟨⟨0, (), rfl, rfl, trivial⟩, hS.F ht⟩) hS.2.2 dX12_forget_17
set_option maxHeartbeats 500000 in
set_option maxRecDepth 100000 in
theorem tX12_thief_v0 (l : Launch) (dC : Nat → ClassId) (dI : Nat → Nat → Nat) (sz : Nat) (ad : Nat → Nat) (ca : Nat → ClassId) (p2 : Int32) : Met l yX12_thief (jk yX12_thief cX12_thief 6 (some .int)) ({ frames := 3, cells := 0, slots := 0, locals := 64 }) (va_Pc [.ref (ad 0), .int 0, .int p2] (jw_P (dC, dI) (xW ad ca) (xT ca) sz)) (va_Qi (fun (r : Int32) (_ : Unit) => (r = (-1))) (fun _ _ => True) (va_A [] sz)) 0 0 (va_A [] sz) := by
  refine Met.ofW (cc := cX12_thief) (maxL := 6) (ret := (some .int)) (by decide) rfl ?_
  intro p e s m args below meth c s₁ B hml hv
  obtain ⟨rfl, hsz, hP, hK, hD0⟩ := hv
  have hx := B.exec
  have hb := B.bytes
  have hr := B.returns
  have hts := atoms_spec (ws := (jk yX12_thief cX12_thief 6 (some .int))) B.pre
  have hown : s.vm.findClass RX12 = some m.cls := findClass_of_methodNamed B.named
  have hlocks := B.notSynchronized
  subst hsz
  have hD := hD0
  generalize hAe : (va_A [] s.heap.size) = A
  have hA : ∀ q : Nat, s.heap.size ≤ q → A q := fun q h => by rw [← hAe]; exact Or.inr h
  have hS : va_S A s.heap s.heap [] := va_S.rf
  have hP : va_P (dC, dI) vwCl (xW ad ca) s.heap := hP
  have hl := lv_entry ([.ref (ad 0), .int 0, .int p2]) (n := 6) (Nat.le_of_ble_eq_true rfl)
  rw [lg_entry_eq]
  generalize (lg_sl ([.ref (ad 0), .int 0, .int p2]) ++ List.replicate (6 - (lg_sl ([.ref (ad 0), .int 0, .int p2])).length) Slot.unset).toArray = ls at hl ⊢
  have hl : lv_has ls 6 [(0, .ref (ad 0)), (1, .int 0), (2, .int p2)] := hl
  refine lv_aload_n hx hb dX12_thief_0 rfl (lv_at hl 0 rfl) ?_
  refine lv_iload_n hx hb dX12_thief_1 rfl (lv_at hl 1 rfl) ?_
  refine jc_q (va_runV (As := [.int 0]) (rest := []) ⟨hx, hb, hml, hown, hts⟩ (kX12_setVolumeAt_2 l dC dI _ ad ca) (cwV 1 hts (jgoodV m_418 m_419 m_420 m_210 m_421) rfl rfl rfl (by decide +kernel) ⟨Nat.le_of_ble_eq_true rfl, Nat.le_of_ble_eq_true rfl⟩) ⟨jw_blind, va_recv hK hP (ci := 12) (q0 := 0) rfl rfl, fun U hU hW => ⟨rfl, jw_of hU hW hP hK hD⟩⟩ rfl rfl hl.1 rfl (lv_room (Nat.le_of_ble_eq_true rfl)) dX12_thief_2 ⟨Nat.le_of_ble_eq_true rfl, Nat.le_of_ble_eq_true rfl⟩) hP hS hA (fun r_1 H locs hw_1 hP hS => ?_)
  have hw_1 : none = r_1 := Eq.symm hw_1
  subst hw_1
  refine jt_q Value.null rfl ?_
  refine lv_astore_nN (lv' := [(3, .null), (0, .ref (ad 0)), (1, .int 0), (2, .int p2)]) hx hb dX12_thief_5 rfl hl (by decide) rfl (fun ls hl => ?_)
  refine lv_aload_nN hx hb dX12_thief_6 rfl (lv_at hl 0 rfl) ?_
  refine lv_ifnullN (tgt := 19) hx hb dX12_thief_7 (by decide) ?_
  refine lv_iconst (v := (-1)) hx hb dX12_thief_19 (by decide) ?_
  exact W.iret (v := (-1)) hx hb hr (fun t ht hW => ⟨⟨(-1), (), rfl, rfl, trivial⟩, hS.F ht⟩) hS.2.2 dX12_thief_20
set_option maxHeartbeats 500000 in
set_option maxRecDepth 100000 in
theorem tX12_thief_v1 (l : Launch) (dC : Nat → ClassId) (dI : Nat → Nat → Nat) (sz : Nat) (ad : Nat → Nat) (ca : Nat → ClassId) (p2 : Int32) : Met l yX12_thief (jk yX12_thief cX12_thief 6 (some .int)) ({ frames := 3, cells := 0, slots := 0, locals := 64 }) (va_Pc [.ref (ad 0), .int 1, .int p2] (jw_P (dC, dI) (xW ad ca) (xT ca) sz)) (va_Qi (fun (r : Int32) (_ : Unit) => (r = (-1))) (fun _ _ => True) (va_A [] sz)) 0 0 (va_A [] sz) := by
  refine Met.ofW (cc := cX12_thief) (maxL := 6) (ret := (some .int)) (by decide) rfl ?_
  intro p e s m args below meth c s₁ B hml hv
  obtain ⟨rfl, hsz, hP, hK, hD0⟩ := hv
  have hx := B.exec
  have hb := B.bytes
  have hr := B.returns
  have hts := atoms_spec (ws := (jk yX12_thief cX12_thief 6 (some .int))) B.pre
  have hown : s.vm.findClass RX12 = some m.cls := findClass_of_methodNamed B.named
  have hlocks := B.notSynchronized
  subst hsz
  have hD := hD0
  generalize hAe : (va_A [] s.heap.size) = A
  have hA : ∀ q : Nat, s.heap.size ≤ q → A q := fun q h => by rw [← hAe]; exact Or.inr h
  have hS : va_S A s.heap s.heap [] := va_S.rf
  have hP : va_P (dC, dI) vwCl (xW ad ca) s.heap := hP
  have hl := lv_entry ([.ref (ad 0), .int 1, .int p2]) (n := 6) (Nat.le_of_ble_eq_true rfl)
  rw [lg_entry_eq]
  generalize (lg_sl ([.ref (ad 0), .int 1, .int p2]) ++ List.replicate (6 - (lg_sl ([.ref (ad 0), .int 1, .int p2])).length) Slot.unset).toArray = ls at hl ⊢
  have hl : lv_has ls 6 [(0, .ref (ad 0)), (1, .int 1), (2, .int p2)] := hl
  refine lv_aload_n hx hb dX12_thief_0 rfl (lv_at hl 0 rfl) ?_
  refine lv_iload_n hx hb dX12_thief_1 rfl (lv_at hl 1 rfl) ?_
  refine jc_q (va_runV (As := [.int 1]) (rest := []) ⟨hx, hb, hml, hown, hts⟩ (kX12_setVolumeAt_4 l dC dI _ ad ca) (cwV 1 hts (jgoodV m_418 m_419 m_420 m_210 m_421) rfl rfl rfl (by decide +kernel) ⟨Nat.le_of_ble_eq_true rfl, Nat.le_of_ble_eq_true rfl⟩) ⟨jw_blind, va_recv hK hP (ci := 12) (q0 := 0) rfl rfl, fun U hU hW => ⟨rfl, jw_of hU hW hP hK hD⟩⟩ rfl rfl hl.1 rfl (lv_room (Nat.le_of_ble_eq_true rfl)) dX12_thief_2 ⟨Nat.le_of_ble_eq_true rfl, Nat.le_of_ble_eq_true rfl⟩) hP hS hA (fun r_1 H locs hw_1 hP hS => ?_)
  have hw_1 : none = r_1 := Eq.symm hw_1
  subst hw_1
  refine jt_q Value.null rfl ?_
  refine lv_astore_nN (lv' := [(3, .null), (0, .ref (ad 0)), (1, .int 1), (2, .int p2)]) hx hb dX12_thief_5 rfl hl (by decide) rfl (fun ls hl => ?_)
  refine lv_aload_nN hx hb dX12_thief_6 rfl (lv_at hl 0 rfl) ?_
  refine lv_ifnullN (tgt := 19) hx hb dX12_thief_7 (by decide) ?_
  refine lv_iconst (v := (-1)) hx hb dX12_thief_19 (by decide) ?_
  exact W.iret (v := (-1)) hx hb hr (fun t ht hW => ⟨⟨(-1), (), rfl, rfl, trivial⟩, hS.F ht⟩) hS.2.2 dX12_thief_20
set_option maxHeartbeats 500000 in
set_option maxRecDepth 100000 in
theorem tX12_thief_v2 (l : Launch) (dC : Nat → ClassId) (dI : Nat → Nat → Nat) (sz : Nat) (ad : Nat → Nat) (ca : Nat → ClassId) (p2 : Int32) : Met l yX12_thief (jk yX12_thief cX12_thief 6 (some .int)) ({ frames := 3, cells := 0, slots := 0, locals := 64 }) (va_Pc [.ref (ad 0), .int 2, .int p2] (jw_P (dC, dI) (xW ad ca) (xT ca) sz)) (va_Qi (fun (r : Int32) (_ : Unit) => (r = (-1))) (fun _ _ => True) (va_A [] sz)) 0 0 (va_A [] sz) := by
  refine Met.ofW (cc := cX12_thief) (maxL := 6) (ret := (some .int)) (by decide) rfl ?_
  intro p e s m args below meth c s₁ B hml hv
  obtain ⟨rfl, hsz, hP, hK, hD0⟩ := hv
  have hx := B.exec
  have hb := B.bytes
  have hr := B.returns
  have hts := atoms_spec (ws := (jk yX12_thief cX12_thief 6 (some .int))) B.pre
  have hown : s.vm.findClass RX12 = some m.cls := findClass_of_methodNamed B.named
  have hlocks := B.notSynchronized
  subst hsz
  have hD := hD0
  generalize hAe : (va_A [] s.heap.size) = A
  have hA : ∀ q : Nat, s.heap.size ≤ q → A q := fun q h => by rw [← hAe]; exact Or.inr h
  have hS : va_S A s.heap s.heap [] := va_S.rf
  have hP : va_P (dC, dI) vwCl (xW ad ca) s.heap := hP
  have hl := lv_entry ([.ref (ad 0), .int 2, .int p2]) (n := 6) (Nat.le_of_ble_eq_true rfl)
  rw [lg_entry_eq]
  generalize (lg_sl ([.ref (ad 0), .int 2, .int p2]) ++ List.replicate (6 - (lg_sl ([.ref (ad 0), .int 2, .int p2])).length) Slot.unset).toArray = ls at hl ⊢
  have hl : lv_has ls 6 [(0, .ref (ad 0)), (1, .int 2), (2, .int p2)] := hl
  refine lv_aload_n hx hb dX12_thief_0 rfl (lv_at hl 0 rfl) ?_
  refine lv_iload_n hx hb dX12_thief_1 rfl (lv_at hl 1 rfl) ?_
  refine jc_q (va_runV (As := [.int 2]) (rest := []) ⟨hx, hb, hml, hown, hts⟩ (kX12_setVolumeAt_6 l dC dI _ ad ca) (cwV 1 hts (jgoodV m_418 m_419 m_420 m_210 m_421) rfl rfl rfl (by decide +kernel) ⟨Nat.le_of_ble_eq_true rfl, Nat.le_of_ble_eq_true rfl⟩) ⟨jw_blind, va_recv hK hP (ci := 12) (q0 := 0) rfl rfl, fun U hU hW => ⟨rfl, jw_of hU hW hP hK hD⟩⟩ rfl rfl hl.1 rfl (lv_room (Nat.le_of_ble_eq_true rfl)) dX12_thief_2 ⟨Nat.le_of_ble_eq_true rfl, Nat.le_of_ble_eq_true rfl⟩) hP hS hA (fun r_1 H locs hw_1 hP hS => ?_)
  have hw_1 : none = r_1 := Eq.symm hw_1
  subst hw_1
  refine jt_q Value.null rfl ?_
  refine lv_astore_nN (lv' := [(3, .null), (0, .ref (ad 0)), (1, .int 2), (2, .int p2)]) hx hb dX12_thief_5 rfl hl (by decide) rfl (fun ls hl => ?_)
  refine lv_aload_nN hx hb dX12_thief_6 rfl (lv_at hl 0 rfl) ?_
  refine lv_ifnullN (tgt := 19) hx hb dX12_thief_7 (by decide) ?_
  refine lv_iconst (v := (-1)) hx hb dX12_thief_19 (by decide) ?_
  exact W.iret (v := (-1)) hx hb hr (fun t ht hW => ⟨⟨(-1), (), rfl, rfl, trivial⟩, hS.F ht⟩) hS.2.2 dX12_thief_20
set_option maxHeartbeats 500000 in
set_option maxRecDepth 100000 in
theorem tX12_thief_v3 (l : Launch) (dC : Nat → ClassId) (dI : Nat → Nat → Nat) (sz : Nat) (ad : Nat → Nat) (ca : Nat → ClassId) (p2 : Int32) : Met l yX12_thief (jk yX12_thief cX12_thief 6 (some .int)) ({ frames := 3, cells := 0, slots := 0, locals := 64 }) (va_Pc [.ref (ad 0), .int 3, .int p2] (jw_P (dC, dI) (xW ad ca) (xT ca) sz)) (va_Qi (fun (r : Int32) (_ : Unit) => (r = (-1))) (fun _ _ => True) (va_A [] sz)) 0 0 (va_A [] sz) := by
  refine Met.ofW (cc := cX12_thief) (maxL := 6) (ret := (some .int)) (by decide) rfl ?_
  intro p e s m args below meth c s₁ B hml hv
  obtain ⟨rfl, hsz, hP, hK, hD0⟩ := hv
  have hx := B.exec
  have hb := B.bytes
  have hr := B.returns
  have hts := atoms_spec (ws := (jk yX12_thief cX12_thief 6 (some .int))) B.pre
  have hown : s.vm.findClass RX12 = some m.cls := findClass_of_methodNamed B.named
  have hlocks := B.notSynchronized
  subst hsz
  have hD := hD0
  generalize hAe : (va_A [] s.heap.size) = A
  have hA : ∀ q : Nat, s.heap.size ≤ q → A q := fun q h => by rw [← hAe]; exact Or.inr h
  have hS : va_S A s.heap s.heap [] := va_S.rf
  have hP : va_P (dC, dI) vwCl (xW ad ca) s.heap := hP
  have hl := lv_entry ([.ref (ad 0), .int 3, .int p2]) (n := 6) (Nat.le_of_ble_eq_true rfl)
  rw [lg_entry_eq]
  generalize (lg_sl ([.ref (ad 0), .int 3, .int p2]) ++ List.replicate (6 - (lg_sl ([.ref (ad 0), .int 3, .int p2])).length) Slot.unset).toArray = ls at hl ⊢
  have hl : lv_has ls 6 [(0, .ref (ad 0)), (1, .int 3), (2, .int p2)] := hl
  refine lv_aload_n hx hb dX12_thief_0 rfl (lv_at hl 0 rfl) ?_
  refine lv_iload_n hx hb dX12_thief_1 rfl (lv_at hl 1 rfl) ?_
  refine jc_q (va_runV (As := [.int 3]) (rest := []) ⟨hx, hb, hml, hown, hts⟩ (kX12_setVolumeAt_8 l dC dI _ ad ca) (cwV 1 hts (jgoodV m_418 m_419 m_420 m_210 m_421) rfl rfl rfl (by decide +kernel) ⟨Nat.le_of_ble_eq_true rfl, Nat.le_of_ble_eq_true rfl⟩) ⟨jw_blind, va_recv hK hP (ci := 12) (q0 := 0) rfl rfl, fun U hU hW => ⟨rfl, jw_of hU hW hP hK hD⟩⟩ rfl rfl hl.1 rfl (lv_room (Nat.le_of_ble_eq_true rfl)) dX12_thief_2 ⟨Nat.le_of_ble_eq_true rfl, Nat.le_of_ble_eq_true rfl⟩) hP hS hA (fun r_1 H locs hw_1 hP hS => ?_)
  have hw_1 : none = r_1 := Eq.symm hw_1
  subst hw_1
  refine jt_q Value.null rfl ?_
  refine lv_astore_nN (lv' := [(3, .null), (0, .ref (ad 0)), (1, .int 3), (2, .int p2)]) hx hb dX12_thief_5 rfl hl (by decide) rfl (fun ls hl => ?_)
  refine lv_aload_nN hx hb dX12_thief_6 rfl (lv_at hl 0 rfl) ?_
  refine lv_ifnullN (tgt := 19) hx hb dX12_thief_7 (by decide) ?_
  refine lv_iconst (v := (-1)) hx hb dX12_thief_19 (by decide) ?_
  exact W.iret (v := (-1)) hx hb hr (fun t ht hW => ⟨⟨(-1), (), rfl, rfl, trivial⟩, hS.F ht⟩) hS.2.2 dX12_thief_20
set_option maxHeartbeats 500000 in
set_option maxRecDepth 100000 in
theorem tX12_thief_v4 (l : Launch) (dC : Nat → ClassId) (dI : Nat → Nat → Nat) (sz : Nat) (ad : Nat → Nat) (ca : Nat → ClassId) (p2 : Int32) : Met l yX12_thief (jk yX12_thief cX12_thief 6 (some .int)) ({ frames := 3, cells := 0, slots := 0, locals := 64 }) (va_Pc [.ref (ad 0), .int 4, .int p2] (jw_P (dC, dI) (xW ad ca) (xT ca) sz)) (va_Qi (fun (r : Int32) (_ : Unit) => (r = (-1))) (fun _ _ => True) (va_A [] sz)) 0 0 (va_A [] sz) := by
  refine Met.ofW (cc := cX12_thief) (maxL := 6) (ret := (some .int)) (by decide) rfl ?_
  intro p e s m args below meth c s₁ B hml hv
  obtain ⟨rfl, hsz, hP, hK, hD0⟩ := hv
  have hx := B.exec
  have hb := B.bytes
  have hr := B.returns
  have hts := atoms_spec (ws := (jk yX12_thief cX12_thief 6 (some .int))) B.pre
  have hown : s.vm.findClass RX12 = some m.cls := findClass_of_methodNamed B.named
  have hlocks := B.notSynchronized
  subst hsz
  have hD := hD0
  generalize hAe : (va_A [] s.heap.size) = A
  have hA : ∀ q : Nat, s.heap.size ≤ q → A q := fun q h => by rw [← hAe]; exact Or.inr h
  have hS : va_S A s.heap s.heap [] := va_S.rf
  have hP : va_P (dC, dI) vwCl (xW ad ca) s.heap := hP
  have hl := lv_entry ([.ref (ad 0), .int 4, .int p2]) (n := 6) (Nat.le_of_ble_eq_true rfl)
  rw [lg_entry_eq]
  generalize (lg_sl ([.ref (ad 0), .int 4, .int p2]) ++ List.replicate (6 - (lg_sl ([.ref (ad 0), .int 4, .int p2])).length) Slot.unset).toArray = ls at hl ⊢
  have hl : lv_has ls 6 [(0, .ref (ad 0)), (1, .int 4), (2, .int p2)] := hl
  refine lv_aload_n hx hb dX12_thief_0 rfl (lv_at hl 0 rfl) ?_
  refine lv_iload_n hx hb dX12_thief_1 rfl (lv_at hl 1 rfl) ?_
  refine jc_q (va_runV (As := [.int 4]) (rest := []) ⟨hx, hb, hml, hown, hts⟩ (kX12_setVolumeAt_10 l dC dI _ ad ca) (cwV 1 hts (jgoodV m_418 m_419 m_420 m_210 m_421) rfl rfl rfl (by decide +kernel) ⟨Nat.le_of_ble_eq_true rfl, Nat.le_of_ble_eq_true rfl⟩) ⟨jw_blind, va_recv hK hP (ci := 12) (q0 := 0) rfl rfl, fun U hU hW => ⟨rfl, jw_of hU hW hP hK hD⟩⟩ rfl rfl hl.1 rfl (lv_room (Nat.le_of_ble_eq_true rfl)) dX12_thief_2 ⟨Nat.le_of_ble_eq_true rfl, Nat.le_of_ble_eq_true rfl⟩) hP hS hA (fun r_1 H locs hw_1 hP hS => ?_)
  have hw_1 : none = r_1 := Eq.symm hw_1
  subst hw_1
  refine jt_q Value.null rfl ?_
  refine lv_astore_nN (lv' := [(3, .null), (0, .ref (ad 0)), (1, .int 4), (2, .int p2)]) hx hb dX12_thief_5 rfl hl (by decide) rfl (fun ls hl => ?_)
  refine lv_aload_nN hx hb dX12_thief_6 rfl (lv_at hl 0 rfl) ?_
  refine lv_ifnullN (tgt := 19) hx hb dX12_thief_7 (by decide) ?_
  refine lv_iconst (v := (-1)) hx hb dX12_thief_19 (by decide) ?_
  exact W.iret (v := (-1)) hx hb hr (fun t ht hW => ⟨⟨(-1), (), rfl, rfl, trivial⟩, hS.F ht⟩) hS.2.2 dX12_thief_20
set_option maxHeartbeats 500000 in
set_option maxRecDepth 100000 in
theorem tX12_thief_v5 (l : Launch) (dC : Nat → ClassId) (dI : Nat → Nat → Nat) (sz : Nat) (ad : Nat → Nat) (ca : Nat → ClassId) (p2 : Int32) : Met l yX12_thief (jk yX12_thief cX12_thief 6 (some .int)) ({ frames := 3, cells := 0, slots := 0, locals := 64 }) (va_Pc [.ref (ad 0), .int 5, .int p2] (jw_P (dC, dI) (xW ad ca) (xT ca) sz)) (va_Qi (fun (r : Int32) (_ : Unit) => (r = (-1))) (fun _ _ => True) (va_A [] sz)) 0 0 (va_A [] sz) := by
  refine Met.ofW (cc := cX12_thief) (maxL := 6) (ret := (some .int)) (by decide) rfl ?_
  intro p e s m args below meth c s₁ B hml hv
  obtain ⟨rfl, hsz, hP, hK, hD0⟩ := hv
  have hx := B.exec
  have hb := B.bytes
  have hr := B.returns
  have hts := atoms_spec (ws := (jk yX12_thief cX12_thief 6 (some .int))) B.pre
  have hown : s.vm.findClass RX12 = some m.cls := findClass_of_methodNamed B.named
  have hlocks := B.notSynchronized
  subst hsz
  have hD := hD0
  generalize hAe : (va_A [] s.heap.size) = A
  have hA : ∀ q : Nat, s.heap.size ≤ q → A q := fun q h => by rw [← hAe]; exact Or.inr h
  have hS : va_S A s.heap s.heap [] := va_S.rf
  have hP : va_P (dC, dI) vwCl (xW ad ca) s.heap := hP
  have hl := lv_entry ([.ref (ad 0), .int 5, .int p2]) (n := 6) (Nat.le_of_ble_eq_true rfl)
  rw [lg_entry_eq]
  generalize (lg_sl ([.ref (ad 0), .int 5, .int p2]) ++ List.replicate (6 - (lg_sl ([.ref (ad 0), .int 5, .int p2])).length) Slot.unset).toArray = ls at hl ⊢
  have hl : lv_has ls 6 [(0, .ref (ad 0)), (1, .int 5), (2, .int p2)] := hl
  refine lv_aload_n hx hb dX12_thief_0 rfl (lv_at hl 0 rfl) ?_
  refine lv_iload_n hx hb dX12_thief_1 rfl (lv_at hl 1 rfl) ?_
  refine jc_q (va_runV (As := [.int 5]) (rest := []) ⟨hx, hb, hml, hown, hts⟩ (kX12_setVolumeAt_12 l dC dI _ ad ca) (cwV 1 hts (jgoodV m_418 m_419 m_420 m_210 m_421) rfl rfl rfl (by decide +kernel) ⟨Nat.le_of_ble_eq_true rfl, Nat.le_of_ble_eq_true rfl⟩) ⟨jw_blind, va_recv hK hP (ci := 12) (q0 := 0) rfl rfl, fun U hU hW => ⟨rfl, jw_of hU hW hP hK hD⟩⟩ rfl rfl hl.1 rfl (lv_room (Nat.le_of_ble_eq_true rfl)) dX12_thief_2 ⟨Nat.le_of_ble_eq_true rfl, Nat.le_of_ble_eq_true rfl⟩) hP hS hA (fun r_1 H locs hw_1 hP hS => ?_)
  have hw_1 : none = r_1 := Eq.symm hw_1
  subst hw_1
  refine jt_q Value.null rfl ?_
  refine lv_astore_nN (lv' := [(3, .null), (0, .ref (ad 0)), (1, .int 5), (2, .int p2)]) hx hb dX12_thief_5 rfl hl (by decide) rfl (fun ls hl => ?_)
  refine lv_aload_nN hx hb dX12_thief_6 rfl (lv_at hl 0 rfl) ?_
  refine lv_ifnullN (tgt := 19) hx hb dX12_thief_7 (by decide) ?_
  refine lv_iconst (v := (-1)) hx hb dX12_thief_19 (by decide) ?_
  exact W.iret (v := (-1)) hx hb hr (fun t ht hW => ⟨⟨(-1), (), rfl, rfl, trivial⟩, hS.F ht⟩) hS.2.2 dX12_thief_20
set_option maxHeartbeats 500000 in
set_option maxRecDepth 100000 in
theorem tX12_thief_lo (l : Launch) (dC : Nat → ClassId) (dI : Nat → Nat → Nat) (sz : Nat) (ad : Nat → Nat) (ca : Nat → ClassId) (p1 : Int32) (p2 : Int32) (fh_p1 : p1 ≤ (-1)) : Met l yX12_thief (jk yX12_thief cX12_thief 6 (some .int)) ({ frames := 3, cells := 0, slots := 0, locals := 64 }) (va_Pc [.ref (ad 0), .int p1, .int p2] (jw_P (dC, dI) (xW ad ca) (xT ca) sz)) (va_Qi (fun (r : Int32) (_ : Unit) => (r = (-1))) (fun _ _ => True) (va_A [] sz)) 0 0 (va_A [] sz) := by
  refine Met.ofW (cc := cX12_thief) (maxL := 6) (ret := (some .int)) (by decide) rfl ?_
  intro p e s m args below meth c s₁ B hml hv
  obtain ⟨rfl, hsz, hP, hK, hD0⟩ := hv
  have hx := B.exec
  have hb := B.bytes
  have hr := B.returns
  have hts := atoms_spec (ws := (jk yX12_thief cX12_thief 6 (some .int))) B.pre
  have hown : s.vm.findClass RX12 = some m.cls := findClass_of_methodNamed B.named
  have hlocks := B.notSynchronized
  subst hsz
  have hD := hD0
  generalize hAe : (va_A [] s.heap.size) = A
  have hA : ∀ q : Nat, s.heap.size ≤ q → A q := fun q h => by rw [← hAe]; exact Or.inr h
  have hS : va_S A s.heap s.heap [] := va_S.rf
  have hP : va_P (dC, dI) vwCl (xW ad ca) s.heap := hP
  have hl := lv_entry ([.ref (ad 0), .int p1, .int p2]) (n := 6) (Nat.le_of_ble_eq_true rfl)
  rw [lg_entry_eq]
  generalize (lg_sl ([.ref (ad 0), .int p1, .int p2]) ++ List.replicate (6 - (lg_sl ([.ref (ad 0), .int p1, .int p2])).length) Slot.unset).toArray = ls at hl ⊢
  have hl : lv_has ls 6 [(0, .ref (ad 0)), (1, .int p1), (2, .int p2)] := hl
  refine lv_aload_n hx hb dX12_thief_0 rfl (lv_at hl 0 rfl) ?_
  refine lv_iload_n hx hb dX12_thief_1 rfl (lv_at hl 1 rfl) ?_
  refine jc_q (va_runV (As := [.int p1]) (rest := []) ⟨hx, hb, hml, hown, hts⟩ (kX12_setVolumeAt_16 l dC dI _ ad ca p1 fh_p1) (cwV 1 hts (jgoodV m_418 m_419 m_420 m_210 m_421) rfl rfl rfl (by decide +kernel) ⟨Nat.le_of_ble_eq_true rfl, Nat.le_of_ble_eq_true rfl⟩) ⟨jw_blind, va_recv hK hP (ci := 12) (q0 := 0) rfl rfl, fun U hU hW => ⟨rfl, jw_of hU hW hP hK hD⟩⟩ rfl rfl hl.1 rfl (lv_room (Nat.le_of_ble_eq_true rfl)) dX12_thief_2 ⟨Nat.le_of_ble_eq_true rfl, Nat.le_of_ble_eq_true rfl⟩) hP hS hA (fun r_1 H locs hw_1 hP hS => ?_)
  have hw_1 : none = r_1 := Eq.symm hw_1
  subst hw_1
  refine jt_q Value.null rfl ?_
  refine lv_astore_nN (lv' := [(3, .null), (0, .ref (ad 0)), (1, .int p1), (2, .int p2)]) hx hb dX12_thief_5 rfl hl (by decide) rfl (fun ls hl => ?_)
  refine lv_aload_nN hx hb dX12_thief_6 rfl (lv_at hl 0 rfl) ?_
  refine lv_ifnullN (tgt := 19) hx hb dX12_thief_7 (by decide) ?_
  refine lv_iconst (v := (-1)) hx hb dX12_thief_19 (by decide) ?_
  exact W.iret (v := (-1)) hx hb hr (fun t ht hW => ⟨⟨(-1), (), rfl, rfl, trivial⟩, hS.F ht⟩) hS.2.2 dX12_thief_20
set_option maxHeartbeats 500000 in
set_option maxRecDepth 100000 in
theorem tX12_thief_hi (l : Launch) (dC : Nat → ClassId) (dI : Nat → Nat → Nat) (sz : Nat) (ad : Nat → Nat) (ca : Nat → ClassId) (p1 : Int32) (p2 : Int32) (fl_p1 : 6 ≤ p1) : Met l yX12_thief (jk yX12_thief cX12_thief 6 (some .int)) ({ frames := 3, cells := 0, slots := 0, locals := 64 }) (va_Pc [.ref (ad 0), .int p1, .int p2] (jw_P (dC, dI) (xW ad ca) (xT ca) sz)) (va_Qi (fun (r : Int32) (_ : Unit) => (r = (-1))) (fun _ _ => True) (va_A [] sz)) 0 0 (va_A [] sz) := by
  refine Met.ofW (cc := cX12_thief) (maxL := 6) (ret := (some .int)) (by decide) rfl ?_
  intro p e s m args below meth c s₁ B hml hv
  obtain ⟨rfl, hsz, hP, hK, hD0⟩ := hv
  have hx := B.exec
  have hb := B.bytes
  have hr := B.returns
  have hts := atoms_spec (ws := (jk yX12_thief cX12_thief 6 (some .int))) B.pre
  have hown : s.vm.findClass RX12 = some m.cls := findClass_of_methodNamed B.named
  have hlocks := B.notSynchronized
  subst hsz
  have hD := hD0
  generalize hAe : (va_A [] s.heap.size) = A
  have hA : ∀ q : Nat, s.heap.size ≤ q → A q := fun q h => by rw [← hAe]; exact Or.inr h
  have hS : va_S A s.heap s.heap [] := va_S.rf
  have hP : va_P (dC, dI) vwCl (xW ad ca) s.heap := hP
  have hl := lv_entry ([.ref (ad 0), .int p1, .int p2]) (n := 6) (Nat.le_of_ble_eq_true rfl)
  rw [lg_entry_eq]
  generalize (lg_sl ([.ref (ad 0), .int p1, .int p2]) ++ List.replicate (6 - (lg_sl ([.ref (ad 0), .int p1, .int p2])).length) Slot.unset).toArray = ls at hl ⊢
  have hl : lv_has ls 6 [(0, .ref (ad 0)), (1, .int p1), (2, .int p2)] := hl
  refine lv_aload_n hx hb dX12_thief_0 rfl (lv_at hl 0 rfl) ?_
  refine lv_iload_n hx hb dX12_thief_1 rfl (lv_at hl 1 rfl) ?_
  refine jc_q (va_runV (As := [.int p1]) (rest := []) ⟨hx, hb, hml, hown, hts⟩ (kX12_setVolumeAt_18 l dC dI _ ad ca p1 fl_p1) (cwV 1 hts (jgoodV m_418 m_419 m_420 m_210 m_421) rfl rfl rfl (by decide +kernel) ⟨Nat.le_of_ble_eq_true rfl, Nat.le_of_ble_eq_true rfl⟩) ⟨jw_blind, va_recv hK hP (ci := 12) (q0 := 0) rfl rfl, fun U hU hW => ⟨rfl, jw_of hU hW hP hK hD⟩⟩ rfl rfl hl.1 rfl (lv_room (Nat.le_of_ble_eq_true rfl)) dX12_thief_2 ⟨Nat.le_of_ble_eq_true rfl, Nat.le_of_ble_eq_true rfl⟩) hP hS hA (fun r_1 H locs hw_1 hP hS => ?_)
  have hw_1 : none = r_1 := Eq.symm hw_1
  subst hw_1
  refine jt_q Value.null rfl ?_
  refine lv_astore_nN (lv' := [(3, .null), (0, .ref (ad 0)), (1, .int p1), (2, .int p2)]) hx hb dX12_thief_5 rfl hl (by decide) rfl (fun ls hl => ?_)
  refine lv_aload_nN hx hb dX12_thief_6 rfl (lv_at hl 0 rfl) ?_
  refine lv_ifnullN (tgt := 19) hx hb dX12_thief_7 (by decide) ?_
  refine lv_iconst (v := (-1)) hx hb dX12_thief_19 (by decide) ?_
  exact W.iret (v := (-1)) hx hb hr (fun t ht hW => ⟨⟨(-1), (), rfl, rfl, trivial⟩, hS.F ht⟩) hS.2.2 dX12_thief_20
set_option maxHeartbeats 500000 in
set_option maxRecDepth 100000 in
theorem tX12_is (l : Launch) (dC : Nat → ClassId) (dI : Nat → Nat → Nat) (sz : Nat) (ad : Nat → Nat) (ca : Nat → ClassId) (p1 : Int32) (p2 : Int32) : Met l yX12_is (jk yX12_is cX12_is 4 (some .int)) ({ frames := 1, cells := 0, slots := 0, locals := 21 }) (va_Pc [.ref (ad 0), .int p1, .int p2] (jw_P (dC, dI) (xW ad ca) (xT ca) sz)) (va_Qi (fun (r : Int32) (_ : Unit) => (r = (-1))) (fun _ _ => True) (va_A [] sz)) 0 0 (va_A [] sz) := by
  refine Met.ofW (cc := cX12_is) (maxL := 4) (ret := (some .int)) (by decide) rfl ?_
  intro p e s m args below meth c s₁ B hml hv
  obtain ⟨rfl, hsz, hP, hK, hD0⟩ := hv
  have hx := B.exec
  have hb := B.bytes
  have hr := B.returns
  have hts := atoms_spec (ws := (jk yX12_is cX12_is 4 (some .int))) B.pre
  have hown : s.vm.findClass RX12 = some m.cls := findClass_of_methodNamed B.named
  have hlocks := B.notSynchronized
  subst hsz
  have hD := hD0
  generalize hAe : (va_A [] s.heap.size) = A
  have hA : ∀ q : Nat, s.heap.size ≤ q → A q := fun q h => by rw [← hAe]; exact Or.inr h
  have hS : va_S A s.heap s.heap [] := va_S.rf
  have hP : va_P (dC, dI) vwCl (xW ad ca) s.heap := hP
  have hl := lv_entry ([.ref (ad 0), .int p1, .int p2]) (n := 4) (Nat.le_of_ble_eq_true rfl)
  rw [lg_entry_eq]
  generalize (lg_sl ([.ref (ad 0), .int p1, .int p2]) ++ List.replicate (4 - (lg_sl ([.ref (ad 0), .int p1, .int p2])).length) Slot.unset).toArray = ls at hl ⊢
  have hl : lv_has ls 4 [(0, .ref (ad 0)), (1, .int p1), (2, .int p2)] := hl
  refine lv_aload_n hx hb dX12_is_0 rfl (lv_at hl 0 rfl) ?_
  refine lv_iload_n hx hb dX12_is_1 rfl (lv_at hl 1 rfl) ?_
  refine jc_q (va_runV (As := [.int p1]) (rest := []) ⟨hx, hb, hml, hown, hts⟩ (kX12_entryAt_2 l dC dI _ ad ca p1) (cwV 1 hts (jgoodV m_316 m_317 m_318 m_210 m_319) rfl rfl rfl (by decide +kernel) ⟨Nat.le_of_ble_eq_true rfl, Nat.le_of_ble_eq_true rfl⟩) ⟨jw_blind, va_recv hK hP (ci := 12) (q0 := 0) rfl rfl, fun U hU hW => ⟨rfl, jw_of hU hW hP hK hD⟩⟩ rfl rfl hl.1 rfl (lv_room (Nat.le_of_ble_eq_true rfl)) dX12_is_2 ⟨Nat.le_of_ble_eq_true rfl, Nat.le_of_ble_eq_true rfl⟩) hP hS hA (fun r_1 H locs hw_1 hP hS => ?_)
  have hw_1 : none = r_1 := Eq.symm hw_1
  subst hw_1
  refine jt_q Value.null rfl ?_
  refine lv_astore_nN (lv' := [(3, .null), (0, .ref (ad 0)), (1, .int p1), (2, .int p2)]) hx hb dX12_is_5 rfl hl (by decide) rfl (fun ls hl => ?_)
  refine lv_aload_nN hx hb dX12_is_6 rfl (lv_at hl 0 rfl) ?_
  refine lv_ifnonnullN hx hb dX12_is_7 ?_
  refine lv_iconst (v := (-1)) hx hb dX12_is_10 (by decide) ?_
  exact W.iret (v := (-1)) hx hb hr (fun t ht hW => ⟨⟨(-1), (), rfl, rfl, trivial⟩, hS.F ht⟩) hS.2.2 dX12_is_11
set_option maxHeartbeats 500000 in
set_option maxRecDepth 100000 in
theorem kX12_countOfHand_2 (l : Launch) (dC : Nat → ClassId) (dI : Nat → Nat → Nat) (sz : Nat) (ad : Nat → Nat) (ca : Nat → ClassId) (p1 : Int32) : Met l yX12_countOfHand (jk yX12_countOfHand cX12_countOfHand 5 (some .int)) ({ frames := 1, cells := 0, slots := 0, locals := 21 }) (va_Pc [.ref (ad 0), .int p1] (jw_P (dC, dI) (xW ad ca) (xT ca) sz)) (va_Qi (fun (r : Int32) (_ : Unit) => (p1 < 10 ∧ r = (-1)) ∨ (¬ (p1 < 10) ∧ 22 ≤ p1 ∧ p1 < 30 ∧ r = (-1)) ∨ (¬ (p1 < 10) ∧ 22 ≤ p1 ∧ ¬ (p1 < 30) ∧ 42 ≤ p1 ∧ r = (-1)) ∨ (¬ (p1 < 10) ∧ 22 ≤ p1 ∧ ¬ (p1 < 30) ∧ ¬ (42 ≤ p1) ∧ r = (-1)) ∨ (¬ (p1 < 10) ∧ ¬ (22 ≤ p1) ∧ r = (-1))) (fun _ _ => True) (va_A [] sz)) 0 0 (va_A [] sz) := by
  refine Met.ofW (cc := cX12_countOfHand) (maxL := 5) (ret := (some .int)) (by decide) rfl ?_
  intro p e s m args below meth c s₁ B hml hv
  obtain ⟨rfl, hsz, hP, hK, hD0⟩ := hv
  have hx := B.exec
  have hb := B.bytes
  have hr := B.returns
  have hts := atoms_spec (ws := (jk yX12_countOfHand cX12_countOfHand 5 (some .int))) B.pre
  have hown : s.vm.findClass RX12 = some m.cls := findClass_of_methodNamed B.named
  have hlocks := B.notSynchronized
  subst hsz
  have hD := hD0
  generalize hAe : (va_A [] s.heap.size) = A
  have hA : ∀ q : Nat, s.heap.size ≤ q → A q := fun q h => by rw [← hAe]; exact Or.inr h
  have hS : va_S A s.heap s.heap [] := va_S.rf
  have hP : va_P (dC, dI) vwCl (xW ad ca) s.heap := hP
  have hl := lv_entry ([.ref (ad 0), .int p1]) (n := 5) (Nat.le_of_ble_eq_true rfl)
  rw [lg_entry_eq]
  generalize (lg_sl ([.ref (ad 0), .int p1]) ++ List.replicate (5 - (lg_sl ([.ref (ad 0), .int p1])).length) Slot.unset).toArray = ls at hl ⊢
  have hl : lv_has ls 5 [(0, .ref (ad 0)), (1, .int p1)] := hl
  refine lv_iload_n hx hb dX12_countOfHand_0 rfl (lv_at hl 1 rfl) ?_
  refine lv_bipush (v := 10) hx hb dX12_countOfHand_1 (by decide) ?_
  refine lv_icmp_lt (tgt := 16) hx hb dX12_countOfHand_3 (by decide) (fun c_1 => ?_) (fun c_1 => ?_)
  · refine lv_iconst (v := 0) hx hb dX12_countOfHand_16 (by decide) ?_
    refine lv_istore_n (lv' := [(2, .int 0), (0, .ref (ad 0)), (1, .int p1)]) hx hb dX12_countOfHand_17 rfl hl (by decide) rfl (fun ls hl => ?_)
    refine lv_iload_n hx hb dX12_countOfHand_18 rfl (lv_at hl 2 rfl) ?_
    refine lv_bipush (v := 30) hx hb dX12_countOfHand_19 (by decide) ?_
    refine lv_icmp_lt (tgt := 34) hx hb dX12_countOfHand_21 (by decide) (fun _ => ?_) (fun z => absurd (jb_lt (jl_lt (d := 9) c_1 (by decide)) (by decide)) z)
    refine lv_iconst (v := 0) hx hb dX12_countOfHand_34 (by decide) ?_
    refine lv_istore_n (lv' := [(3, .int 0), (2, .int 0), (0, .ref (ad 0)), (1, .int p1)]) hx hb dX12_countOfHand_35 rfl hl (by decide) rfl (fun ls hl => ?_)
    refine lv_iload_n hx hb dX12_countOfHand_36 rfl (lv_at hl 1 rfl) ?_
    refine lv_if_ne (tgt := 46) hx hb dX12_countOfHand_37 (by decide) (fun z => absurd (by decide) z) (fun _ => ?_)
    refine lv_iload_n hx hb dX12_countOfHand_40 rfl (lv_at hl 0 rfl) ?_
    refine lv_if_ne (tgt := 46) hx hb dX12_countOfHand_41 (by decide) (fun z => absurd (by decide) z) (fun _ => ?_)
    refine lv_iconst (v := (-1)) hx hb dX12_countOfHand_44 (by decide) ?_
    exact W.iret (v := (-1)) hx hb hr (fun t ht hW => ⟨⟨(-1), (), rfl, (Or.inl ⟨c_1, rfl⟩), trivial⟩, hS.F ht⟩) hS.2.2 dX12_countOfHand_45
  · refine lv_iload_n hx hb dX12_countOfHand_6 rfl (lv_at hl 1 rfl) ?_
    refine lv_bipush (v := 22) hx hb dX12_countOfHand_7 (by decide) ?_
    refine lv_icmp_ge (tgt := 16) hx hb dX12_countOfHand_9 (by decide) (fun c_2 => ?_) (fun c_2 => ?_)
    · refine lv_iconst (v := 0) hx hb dX12_countOfHand_16 (by decide) ?_
      refine lv_istore_n (lv' := [(2, .int 0), (0, .ref (ad 0)), (1, .int p1)]) hx hb dX12_countOfHand_17 rfl hl (by decide) rfl (fun ls hl => ?_)
      refine lv_iload_n hx hb dX12_countOfHand_18 rfl (lv_at hl 2 rfl) ?_
      refine lv_bipush (v := 30) hx hb dX12_countOfHand_19 (by decide) ?_
      refine lv_icmp_lt (tgt := 34) hx hb dX12_countOfHand_21 (by decide) (fun c_3 => ?_) (fun c_3 => ?_)
      · refine lv_iconst (v := 0) hx hb dX12_countOfHand_34 (by decide) ?_
        refine lv_istore_n (lv' := [(3, .int 0), (2, .int 0), (0, .ref (ad 0)), (1, .int p1)]) hx hb dX12_countOfHand_35 rfl hl (by decide) rfl (fun ls hl => ?_)
        refine lv_iload_n hx hb dX12_countOfHand_36 rfl (lv_at hl 1 rfl) ?_
        refine lv_if_ne (tgt := 46) hx hb dX12_countOfHand_37 (by decide) (fun z => absurd (by decide) z) (fun _ => ?_)
        refine lv_iload_n hx hb dX12_countOfHand_40 rfl (lv_at hl 0 rfl) ?_
        refine lv_if_ne (tgt := 46) hx hb dX12_countOfHand_41 (by decide) (fun z => absurd (by decide) z) (fun _ => ?_)
        refine lv_iconst (v := (-1)) hx hb dX12_countOfHand_44 (by decide) ?_
        exact W.iret (v := (-1)) hx hb hr (fun t ht hW => ⟨⟨(-1), (), rfl, (Or.inr (Or.inl ⟨c_1, c_2, c_3, rfl⟩)), trivial⟩, hS.F ht⟩) hS.2.2 dX12_countOfHand_45
      · refine lv_iload_n hx hb dX12_countOfHand_24 rfl (lv_at hl 2 rfl) ?_
        refine lv_bipush (v := 42) hx hb dX12_countOfHand_25 (by decide) ?_
        refine lv_icmp_ge (tgt := 34) hx hb dX12_countOfHand_27 (by decide) (fun c_4 => ?_) (fun c_4 => ?_)
        · refine lv_iconst (v := 0) hx hb dX12_countOfHand_34 (by decide) ?_
          refine lv_istore_n (lv' := [(3, .int 0), (2, .int 0), (0, .ref (ad 0)), (1, .int p1)]) hx hb dX12_countOfHand_35 rfl hl (by decide) rfl (fun ls hl => ?_)
          refine lv_iload_n hx hb dX12_countOfHand_36 rfl (lv_at hl 1 rfl) ?_
          refine lv_if_ne (tgt := 46) hx hb dX12_countOfHand_37 (by decide) (fun z => absurd (by decide) z) (fun _ => ?_)
          refine lv_iload_n hx hb dX12_countOfHand_40 rfl (lv_at hl 0 rfl) ?_
          refine lv_if_ne (tgt := 46) hx hb dX12_countOfHand_41 (by decide) (fun z => absurd (by decide) z) (fun _ => ?_)
          refine lv_iconst (v := (-1)) hx hb dX12_countOfHand_44 (by decide) ?_
          exact W.iret (v := (-1)) hx hb hr (fun t ht hW => ⟨⟨(-1), (), rfl, (Or.inr (Or.inr (Or.inl ⟨c_1, c_2, c_3, c_4, rfl⟩))), trivial⟩, hS.F ht⟩) hS.2.2 dX12_countOfHand_45
        · refine lv_iconst (v := 1) hx hb dX12_countOfHand_30 (by decide) ?_
          refine lv_goto (tgt := 35) hx hb dX12_countOfHand_31 (by decide) ?_
          refine lv_istore_n (lv' := [(3, .int 1), (2, .int 0), (0, .ref (ad 0)), (1, .int p1)]) hx hb dX12_countOfHand_35 rfl hl (by decide) rfl (fun ls hl => ?_)
          refine lv_iload_n hx hb dX12_countOfHand_36 rfl (lv_at hl 1 rfl) ?_
          refine lv_if_ne (tgt := 46) hx hb dX12_countOfHand_37 (by decide) (fun z => absurd (by decide) z) (fun _ => ?_)
          refine lv_iload_n hx hb dX12_countOfHand_40 rfl (lv_at hl 0 rfl) ?_
          refine lv_if_ne (tgt := 46) hx hb dX12_countOfHand_41 (by decide) (fun _ => ?_) (fun z => absurd z (by decide))
          refine lv_aload_n hx hb dX12_countOfHand_46 rfl (lv_at hl 2 rfl) ?_
          refine lv_iload_n hx hb dX12_countOfHand_47 rfl (lv_at hl 1 rfl) ?_
          refine lv_if_eq (tgt := 58) hx hb dX12_countOfHand_48 (by decide) (fun _ => ?_) (fun z => absurd (by decide) z)
          refine lv_iload_n hx hb dX12_countOfHand_58 rfl (lv_at hl 3 rfl) ?_
          refine lv_bipush (v := 30) hx hb dX12_countOfHand_59 (by decide) ?_
          refine lv_isub hx hb dX12_countOfHand_61 ?_
          refine jc_q (va_runV (As := [.int (p1 - 30)]) (rest := []) ⟨hx, hb, hml, hown, hts⟩ (kX12_handAt_2 l dC dI _ ad ca (p1 - 30)) (cwV 1 hts (jgoodV m_352 m_353 m_354 m_210 m_355) rfl rfl rfl (by decide +kernel) ⟨Nat.le_of_ble_eq_true rfl, Nat.le_of_ble_eq_true rfl⟩) ⟨jw_blind, va_recv hK hP (ci := 12) (q0 := 0) rfl rfl, fun U hU hW => ⟨rfl, jw_of hU hW hP hK hD⟩⟩ rfl rfl hl.1 rfl (lv_room (Nat.le_of_ble_eq_true rfl)) dX12_countOfHand_62 ⟨Nat.le_of_ble_eq_true rfl, Nat.le_of_ble_eq_true rfl⟩) hP hS hA (fun r_5 H locs hw_5 hP hS => ?_)
          have hw_5 : none = r_5 := Eq.symm hw_5
          subst hw_5
          refine jt_q Value.null rfl ?_
          refine lv_astoreN (lv' := [(4, .null), (3, .int 1), (2, .int 0), (0, .ref (ad 0)), (1, .int p1)]) hx hb dX12_countOfHand_65 hl (by decide) rfl (fun ls hl => ?_)
          refine lv_aloadN hx hb dX12_countOfHand_67 (lv_at hl 0 rfl) ?_
          refine lv_ifnonnullN hx hb dX12_countOfHand_69 ?_
          refine lv_iconst (v := (-1)) hx hb dX12_countOfHand_72 (by decide) ?_
          exact W.iret (v := (-1)) hx hb hr (fun t ht hW => ⟨⟨(-1), (), rfl, (Or.inr (Or.inr (Or.inr (Or.inl ⟨c_1, c_2, c_3, c_4, rfl⟩)))), trivial⟩, hS.F ht⟩) hS.2.2 dX12_countOfHand_73
    · refine lv_iconst (v := 1) hx hb dX12_countOfHand_12 (by decide) ?_
      refine lv_goto (tgt := 17) hx hb dX12_countOfHand_13 (by decide) ?_
      refine lv_istore_n (lv' := [(2, .int 1), (0, .ref (ad 0)), (1, .int p1)]) hx hb dX12_countOfHand_17 rfl hl (by decide) rfl (fun ls hl => ?_)
      refine lv_iload_n hx hb dX12_countOfHand_18 rfl (lv_at hl 2 rfl) ?_
      refine lv_bipush (v := 30) hx hb dX12_countOfHand_19 (by decide) ?_
      refine lv_icmp_lt (tgt := 34) hx hb dX12_countOfHand_21 (by decide) (fun _ => ?_) (fun z => absurd (jb_lt (jl_nge (d := 21) c_2 (by decide)) (by decide)) z)
      refine lv_iconst (v := 0) hx hb dX12_countOfHand_34 (by decide) ?_
      refine lv_istore_n (lv' := [(3, .int 0), (2, .int 1), (0, .ref (ad 0)), (1, .int p1)]) hx hb dX12_countOfHand_35 rfl hl (by decide) rfl (fun ls hl => ?_)
      refine lv_iload_n hx hb dX12_countOfHand_36 rfl (lv_at hl 1 rfl) ?_
      refine lv_if_ne (tgt := 46) hx hb dX12_countOfHand_37 (by decide) (fun _ => ?_) (fun z => absurd z (by decide))
      refine lv_aload_n hx hb dX12_countOfHand_46 rfl (lv_at hl 2 rfl) ?_
      refine lv_iload_n hx hb dX12_countOfHand_47 rfl (lv_at hl 1 rfl) ?_
      refine lv_if_eq (tgt := 58) hx hb dX12_countOfHand_48 (by decide) (fun z => absurd z (by decide)) (fun _ => ?_)
      refine lv_iload_n hx hb dX12_countOfHand_51 rfl (lv_at hl 3 rfl) ?_
      refine lv_bipush (v := 10) hx hb dX12_countOfHand_52 (by decide) ?_
      refine lv_isub hx hb dX12_countOfHand_54 ?_
      refine lv_goto (tgt := 62) hx hb dX12_countOfHand_55 (by decide) ?_
      refine jc_q (va_runV (As := [.int (p1 - 10)]) (rest := []) ⟨hx, hb, hml, hown, hts⟩ (kX12_handAt_2 l dC dI _ ad ca (p1 - 10)) (cwV 1 hts (jgoodV m_352 m_353 m_354 m_210 m_355) rfl rfl rfl (by decide +kernel) ⟨Nat.le_of_ble_eq_true rfl, Nat.le_of_ble_eq_true rfl⟩) ⟨jw_blind, va_recv hK hP (ci := 12) (q0 := 0) rfl rfl, fun U hU hW => ⟨rfl, jw_of hU hW hP hK hD⟩⟩ rfl rfl hl.1 rfl (lv_room (Nat.le_of_ble_eq_true rfl)) dX12_countOfHand_62 ⟨Nat.le_of_ble_eq_true rfl, Nat.le_of_ble_eq_true rfl⟩) hP hS hA (fun r_6 H locs hw_6 hP hS => ?_)
      have hw_6 : none = r_6 := Eq.symm hw_6
      subst hw_6
      refine jt_q Value.null rfl ?_
      refine lv_astoreN (lv' := [(4, .null), (3, .int 0), (2, .int 1), (0, .ref (ad 0)), (1, .int p1)]) hx hb dX12_countOfHand_65 hl (by decide) rfl (fun ls hl => ?_)
      refine lv_aloadN hx hb dX12_countOfHand_67 (lv_at hl 0 rfl) ?_
      refine lv_ifnonnullN hx hb dX12_countOfHand_69 ?_
      refine lv_iconst (v := (-1)) hx hb dX12_countOfHand_72 (by decide) ?_
      exact W.iret (v := (-1)) hx hb hr (fun t ht hW => ⟨⟨(-1), (), rfl, (Or.inr (Or.inr (Or.inr (Or.inr ⟨c_1, c_2, rfl⟩)))), trivial⟩, hS.F ht⟩) hS.2.2 dX12_countOfHand_73
