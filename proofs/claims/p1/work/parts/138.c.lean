set_option maxHeartbeats 500000 in
set_option maxRecDepth 100000 in
theorem tX12_giving (l : Launch) (dC : Nat → ClassId) (dI : Nat → Nat → Nat) (sz : Nat) (ad : Nat → Nat) (ca : Nat → ClassId) (p1 : Int32) (p2 : Int32) (p3 : Int32) : Met l yX12_giving (jk yX12_giving cX12_giving 4 (some .int)) ({ frames := 3, cells := 0, slots := 0, locals := 67 }) (va_Pc [.ref (ad 0), .int p1, .int p2, .int p3] (jw_P (dC, dI) (xW ad ca) (xT ca) sz)) (va_Qi (fun (r : Int32) (_ : Unit) => (r = (-1))) (fun _ _ => True) (va_A (xW ad ca) sz)) 0 0 (va_A (xW ad ca) sz) := by
  refine Met.ofW (cc := cX12_giving) (maxL := 4) (ret := (some .int)) (by decide) rfl ?_
  intro p e s m args below meth c s₁ B hml hv
  obtain ⟨rfl, hsz, hP, hK, hD0⟩ := hv
  have hx := B.exec
  have hb := B.bytes
  have hr := B.returns
  have hts := atoms_spec (ws := (jk yX12_giving cX12_giving 4 (some .int))) B.pre
  have hown : s.vm.findClass RX12 = some m.cls := findClass_of_methodNamed B.named
  have hlocks := B.notSynchronized
  subst hsz
  have hD := hD0.self (sz := s.heap.size)
  generalize hAe : (va_A (xW ad ca) s.heap.size) = A at hD ⊢
  have hA : ∀ q : Nat, s.heap.size ≤ q → A q := fun q h => by rw [← hAe]; exact Or.inr h
  have hS : va_S A s.heap s.heap [] := va_S.rf
  have hP : va_P (dC, dI) vwCl (xW ad ca) s.heap := hP
  have hl := lv_entry ([.ref (ad 0), .int p1, .int p2, .int p3]) (n := 4) (Nat.le_of_ble_eq_true rfl)
  rw [lg_entry_eq]
  generalize (lg_sl ([.ref (ad 0), .int p1, .int p2, .int p3]) ++ List.replicate (4 - (lg_sl ([.ref (ad 0), .int p1, .int p2, .int p3])).length) Slot.unset).toArray = ls at hl ⊢
  have hl : lv_has ls 4 [(0, .ref (ad 0)), (1, .int p1), (2, .int p2), (3, .int p3)] := hl
  refine lv_aload_n hx hb dX12_giving_0 rfl (lv_at hl 0 rfl) ?_
  refine lv_iload_n hx hb dX12_giving_1 rfl (lv_at hl 1 rfl) ?_
  refine lv_iload_n hx hb dX12_giving_2 rfl (lv_at hl 2 rfl) ?_
  refine lv_iload_n hx hb dX12_giving_3 rfl (lv_at hl 3 rfl) ?_
  refine jc_i (va_runV (As := [.int p1, .int p2, .int p3]) (rest := []) ⟨hx, hb, hml, hown, hts⟩ (kX12_canGive_1 l dC dI _ (ad 0) p1 p2 p3) (cwV 3 hts (jgoodV m_457 m_458 m_459 m_210 m_460) rfl rfl rfl (by decide +kernel) ⟨Nat.le_of_ble_eq_true rfl, Nat.le_of_ble_eq_true rfl⟩) ⟨jw_blind0, va_recv hK hP (ci := 12) (q0 := 0) rfl rfl, fun U hU hW => ⟨rfl, congrArg Array.size hU⟩⟩ rfl rfl hl.1 rfl (lv_room (Nat.le_of_ble_eq_true rfl)) dX12_giving_4 ⟨Nat.le_of_ble_eq_true rfl, Nat.le_of_ble_eq_true rfl⟩) hP hS hA (fun r_1 H locs hw_1 hP hS => ?_)
  rcases (show (r_1 = 0) ∨ (¬ (p1 ≤ 0) ∧ ¬ (1073741824 ≤ p1) ∧ ¬ (p2 ≤ 0) ∧ ¬ (4096 ≤ p2) ∧ ¬ (7 < ((((((((p1 - (((Int32.toUInt32 p1 >>> (Int32.toUInt32 1 &&& Int32.toUInt32 31)).toInt32) &&& 1431655765)) &&& 858993459) + (((Int32.toUInt32 (p1 - (((Int32.toUInt32 p1 >>> (Int32.toUInt32 1 &&& Int32.toUInt32 31)).toInt32) &&& 1431655765)) >>> (Int32.toUInt32 2 &&& Int32.toUInt32 31)).toInt32) &&& 858993459)) + ((Int32.toUInt32 (((p1 - (((Int32.toUInt32 p1 >>> (Int32.toUInt32 1 &&& Int32.toUInt32 31)).toInt32) &&& 1431655765)) &&& 858993459) + (((Int32.toUInt32 (p1 - (((Int32.toUInt32 p1 >>> (Int32.toUInt32 1 &&& Int32.toUInt32 31)).toInt32) &&& 1431655765)) >>> (Int32.toUInt32 2 &&& Int32.toUInt32 31)).toInt32) &&& 858993459)) >>> (Int32.toUInt32 4 &&& Int32.toUInt32 31)).toInt32)) &&& 252645135) + ((Int32.toUInt32 (((((p1 - (((Int32.toUInt32 p1 >>> (Int32.toUInt32 1 &&& Int32.toUInt32 31)).toInt32) &&& 1431655765)) &&& 858993459) + (((Int32.toUInt32 (p1 - (((Int32.toUInt32 p1 >>> (Int32.toUInt32 1 &&& Int32.toUInt32 31)).toInt32) &&& 1431655765)) >>> (Int32.toUInt32 2 &&& Int32.toUInt32 31)).toInt32) &&& 858993459)) + ((Int32.toUInt32 (((p1 - (((Int32.toUInt32 p1 >>> (Int32.toUInt32 1 &&& Int32.toUInt32 31)).toInt32) &&& 1431655765)) &&& 858993459) + (((Int32.toUInt32 (p1 - (((Int32.toUInt32 p1 >>> (Int32.toUInt32 1 &&& Int32.toUInt32 31)).toInt32) &&& 1431655765)) >>> (Int32.toUInt32 2 &&& Int32.toUInt32 31)).toInt32) &&& 858993459)) >>> (Int32.toUInt32 4 &&& Int32.toUInt32 31)).toInt32)) &&& 252645135) >>> (Int32.toUInt32 8 &&& Int32.toUInt32 31)).toInt32)) + ((Int32.toUInt32 ((((((p1 - (((Int32.toUInt32 p1 >>> (Int32.toUInt32 1 &&& Int32.toUInt32 31)).toInt32) &&& 1431655765)) &&& 858993459) + (((Int32.toUInt32 (p1 - (((Int32.toUInt32 p1 >>> (Int32.toUInt32 1 &&& Int32.toUInt32 31)).toInt32) &&& 1431655765)) >>> (Int32.toUInt32 2 &&& Int32.toUInt32 31)).toInt32) &&& 858993459)) + ((Int32.toUInt32 (((p1 - (((Int32.toUInt32 p1 >>> (Int32.toUInt32 1 &&& Int32.toUInt32 31)).toInt32) &&& 1431655765)) &&& 858993459) + (((Int32.toUInt32 (p1 - (((Int32.toUInt32 p1 >>> (Int32.toUInt32 1 &&& Int32.toUInt32 31)).toInt32) &&& 1431655765)) >>> (Int32.toUInt32 2 &&& Int32.toUInt32 31)).toInt32) &&& 858993459)) >>> (Int32.toUInt32 4 &&& Int32.toUInt32 31)).toInt32)) &&& 252645135) + ((Int32.toUInt32 (((((p1 - (((Int32.toUInt32 p1 >>> (Int32.toUInt32 1 &&& Int32.toUInt32 31)).toInt32) &&& 1431655765)) &&& 858993459) + (((Int32.toUInt32 (p1 - (((Int32.toUInt32 p1 >>> (Int32.toUInt32 1 &&& Int32.toUInt32 31)).toInt32) &&& 1431655765)) >>> (Int32.toUInt32 2 &&& Int32.toUInt32 31)).toInt32) &&& 858993459)) + ((Int32.toUInt32 (((p1 - (((Int32.toUInt32 p1 >>> (Int32.toUInt32 1 &&& Int32.toUInt32 31)).toInt32) &&& 1431655765)) &&& 858993459) + (((Int32.toUInt32 (p1 - (((Int32.toUInt32 p1 >>> (Int32.toUInt32 1 &&& Int32.toUInt32 31)).toInt32) &&& 1431655765)) >>> (Int32.toUInt32 2 &&& Int32.toUInt32 31)).toInt32) &&& 858993459)) >>> (Int32.toUInt32 4 &&& Int32.toUInt32 31)).toInt32)) &&& 252645135) >>> (Int32.toUInt32 8 &&& Int32.toUInt32 31)).toInt32)) >>> (Int32.toUInt32 16 &&& Int32.toUInt32 31)).toInt32)) &&& 63)) ∧ ¬ (6 < ((((((((p2 - (((Int32.toUInt32 p2 >>> (Int32.toUInt32 1 &&& Int32.toUInt32 31)).toInt32) &&& 1431655765)) &&& 858993459) + (((Int32.toUInt32 (p2 - (((Int32.toUInt32 p2 >>> (Int32.toUInt32 1 &&& Int32.toUInt32 31)).toInt32) &&& 1431655765)) >>> (Int32.toUInt32 2 &&& Int32.toUInt32 31)).toInt32) &&& 858993459)) + ((Int32.toUInt32 (((p2 - (((Int32.toUInt32 p2 >>> (Int32.toUInt32 1 &&& Int32.toUInt32 31)).toInt32) &&& 1431655765)) &&& 858993459) + (((Int32.toUInt32 (p2 - (((Int32.toUInt32 p2 >>> (Int32.toUInt32 1 &&& Int32.toUInt32 31)).toInt32) &&& 1431655765)) >>> (Int32.toUInt32 2 &&& Int32.toUInt32 31)).toInt32) &&& 858993459)) >>> (Int32.toUInt32 4 &&& Int32.toUInt32 31)).toInt32)) &&& 252645135) + ((Int32.toUInt32 (((((p2 - (((Int32.toUInt32 p2 >>> (Int32.toUInt32 1 &&& Int32.toUInt32 31)).toInt32) &&& 1431655765)) &&& 858993459) + (((Int32.toUInt32 (p2 - (((Int32.toUInt32 p2 >>> (Int32.toUInt32 1 &&& Int32.toUInt32 31)).toInt32) &&& 1431655765)) >>> (Int32.toUInt32 2 &&& Int32.toUInt32 31)).toInt32) &&& 858993459)) + ((Int32.toUInt32 (((p2 - (((Int32.toUInt32 p2 >>> (Int32.toUInt32 1 &&& Int32.toUInt32 31)).toInt32) &&& 1431655765)) &&& 858993459) + (((Int32.toUInt32 (p2 - (((Int32.toUInt32 p2 >>> (Int32.toUInt32 1 &&& Int32.toUInt32 31)).toInt32) &&& 1431655765)) >>> (Int32.toUInt32 2 &&& Int32.toUInt32 31)).toInt32) &&& 858993459)) >>> (Int32.toUInt32 4 &&& Int32.toUInt32 31)).toInt32)) &&& 252645135) >>> (Int32.toUInt32 8 &&& Int32.toUInt32 31)).toInt32)) + ((Int32.toUInt32 ((((((p2 - (((Int32.toUInt32 p2 >>> (Int32.toUInt32 1 &&& Int32.toUInt32 31)).toInt32) &&& 1431655765)) &&& 858993459) + (((Int32.toUInt32 (p2 - (((Int32.toUInt32 p2 >>> (Int32.toUInt32 1 &&& Int32.toUInt32 31)).toInt32) &&& 1431655765)) >>> (Int32.toUInt32 2 &&& Int32.toUInt32 31)).toInt32) &&& 858993459)) + ((Int32.toUInt32 (((p2 - (((Int32.toUInt32 p2 >>> (Int32.toUInt32 1 &&& Int32.toUInt32 31)).toInt32) &&& 1431655765)) &&& 858993459) + (((Int32.toUInt32 (p2 - (((Int32.toUInt32 p2 >>> (Int32.toUInt32 1 &&& Int32.toUInt32 31)).toInt32) &&& 1431655765)) >>> (Int32.toUInt32 2 &&& Int32.toUInt32 31)).toInt32) &&& 858993459)) >>> (Int32.toUInt32 4 &&& Int32.toUInt32 31)).toInt32)) &&& 252645135) + ((Int32.toUInt32 (((((p2 - (((Int32.toUInt32 p2 >>> (Int32.toUInt32 1 &&& Int32.toUInt32 31)).toInt32) &&& 1431655765)) &&& 858993459) + (((Int32.toUInt32 (p2 - (((Int32.toUInt32 p2 >>> (Int32.toUInt32 1 &&& Int32.toUInt32 31)).toInt32) &&& 1431655765)) >>> (Int32.toUInt32 2 &&& Int32.toUInt32 31)).toInt32) &&& 858993459)) + ((Int32.toUInt32 (((p2 - (((Int32.toUInt32 p2 >>> (Int32.toUInt32 1 &&& Int32.toUInt32 31)).toInt32) &&& 1431655765)) &&& 858993459) + (((Int32.toUInt32 (p2 - (((Int32.toUInt32 p2 >>> (Int32.toUInt32 1 &&& Int32.toUInt32 31)).toInt32) &&& 1431655765)) >>> (Int32.toUInt32 2 &&& Int32.toUInt32 31)).toInt32) &&& 858993459)) >>> (Int32.toUInt32 4 &&& Int32.toUInt32 31)).toInt32)) &&& 252645135) >>> (Int32.toUInt32 8 &&& Int32.toUInt32 31)).toInt32)) >>> (Int32.toUInt32 16 &&& Int32.toUInt32 31)).toInt32)) &&& 63)) ∧ ¬ (p3 < 1) ∧ ¬ (400 < p3) ∧ r_1 = 1) from hw_1) with e_1_0 | ⟨c_2, c_3, c_4, c_5, c_6, c_7, c_8, c_9, e_9_1⟩
  · have e_1_0 := e_1_0.symm
    subst e_1_0
    refine lv_if_eq (tgt := 37) hx hb dX12_giving_7 (by decide) (fun _ => ?_) (fun z => absurd (by decide) z)
    refine lv_iconst (v := (-1)) hx hb dX12_giving_37 (by decide) ?_
    exact W.iret (v := (-1)) hx hb hr (fun t ht hW => ⟨⟨(-1), (), rfl, rfl, trivial⟩, hS.F ht⟩) hS.2.2 dX12_giving_38
  · have e_9_1 := e_9_1.symm
    subst e_9_1
    refine lv_if_eq (tgt := 37) hx hb dX12_giving_7 (by decide) (fun z => absurd z (by decide)) (fun _ => ?_)
    refine lv_aload_n hx hb dX12_giving_10 rfl (lv_at hl 0 rfl) ?_
    refine lv_iload_n hx hb dX12_giving_11 rfl (lv_at hl 2 rfl) ?_
    refine lv_iload_n hx hb dX12_giving_12 rfl (lv_at hl 3 rfl) ?_
    refine jcw_i (va_runV (As := [.int p2, .int p3]) (rest := []) ⟨hx, hb, hml, hown, hts⟩ (kX12_addHands_4 l dC dI _ ad ca p2 p3 (jl_nle (d := 1) c_4 (by decide)) (jl_nge (d := 4095) c_5 (by decide)) (jl_nlt c_8) (jl_ngt c_9)) (cwV 2 hts (jgoodV m_469 m_470 m_471 m_210 m_472) rfl rfl rfl (by decide +kernel) ⟨Nat.le_of_ble_eq_true rfl, Nat.le_of_ble_eq_true rfl⟩) ⟨jw_blind, va_recv hK hP (ci := 12) (q0 := 0) rfl rfl, fun U hU hW => ⟨rfl, jw_of hU hW hP hK hD⟩⟩ rfl rfl hl.1 rfl (lv_room (Nat.le_of_ble_eq_true rfl)) dX12_giving_13 ⟨Nat.le_of_ble_eq_true rfl, Nat.le_of_ble_eq_true rfl⟩) hD hS hA (fun r_10 H locs hw_10 hP hK hD hS => ?_)
    have hw_10 : 0 = r_10 := Eq.symm hw_10
    subst hw_10
    refine lv_if_eq (tgt := 37) hx hb dX12_giving_16 (by decide) (fun _ => ?_) (fun z => absurd (by decide) z)
    refine lv_iconst (v := (-1)) hx hb dX12_giving_37 (by decide) ?_
    exact W.iret (v := (-1)) hx hb hr (fun t ht hW => ⟨⟨(-1), (), rfl, rfl, trivial⟩, hS.F ht⟩) hS.2.2 dX12_giving_38
set_option maxHeartbeats 500000 in
set_option maxRecDepth 100000 in
theorem tX12_given (l : Launch) (dC : Nat → ClassId) (dI : Nat → Nat → Nat) (sz : Nat) (ad : Nat → Nat) (ca : Nat → ClassId) (p1 : Int32) (p2 : Int32) (p3 : Int32) (p4 : Int32) : Met l yX12_given (jk yX12_given cX12_given 6 (some .int)) ({ frames := 3, cells := 0, slots := 0, locals := 67 }) (va_Pc [.ref (ad 0), .int p1, .int p2, .int p3, .int p4] (jw_P (dC, dI) (xW ad ca) (xT ca) sz)) (va_Qi (fun (r : Int32) (_ : Unit) => (r = (-1))) (fun _ _ => True) (va_A (xW ad ca) sz)) 0 0 (va_A (xW ad ca) sz) := by
  refine Met.ofW (cc := cX12_given) (maxL := 6) (ret := (some .int)) (by decide) rfl ?_
  intro p e s m args below meth c s₁ B hml hv
  obtain ⟨rfl, hsz, hP, hK, hD0⟩ := hv
  have hx := B.exec
  have hb := B.bytes
  have hr := B.returns
  have hts := atoms_spec (ws := (jk yX12_given cX12_given 6 (some .int))) B.pre
  have hown : s.vm.findClass RX12 = some m.cls := findClass_of_methodNamed B.named
  have hlocks := B.notSynchronized
  subst hsz
  have hD := hD0.self (sz := s.heap.size)
  generalize hAe : (va_A (xW ad ca) s.heap.size) = A at hD ⊢
  have hA : ∀ q : Nat, s.heap.size ≤ q → A q := fun q h => by rw [← hAe]; exact Or.inr h
  have hS : va_S A s.heap s.heap [] := va_S.rf
  have hP : va_P (dC, dI) vwCl (xW ad ca) s.heap := hP
  have hl := lv_entry ([.ref (ad 0), .int p1, .int p2, .int p3, .int p4]) (n := 6) (Nat.le_of_ble_eq_true rfl)
  rw [lg_entry_eq]
  generalize (lg_sl ([.ref (ad 0), .int p1, .int p2, .int p3, .int p4]) ++ List.replicate (6 - (lg_sl ([.ref (ad 0), .int p1, .int p2, .int p3, .int p4])).length) Slot.unset).toArray = ls at hl ⊢
  have hl : lv_has ls 6 [(0, .ref (ad 0)), (1, .int p1), (2, .int p2), (3, .int p3), (4, .int p4)] := hl
  refine lv_aload_n hx hb dX12_given_0 rfl (lv_at hl 0 rfl) ?_
  refine lv_iload_n hx hb dX12_given_1 rfl (lv_at hl 1 rfl) ?_
  refine lv_iload_n hx hb dX12_given_2 rfl (lv_at hl 2 rfl) ?_
  refine lv_iload_n hx hb dX12_given_3 rfl (lv_at hl 3 rfl) ?_
  refine jc_i (va_runV (As := [.int p1, .int p2, .int p3]) (rest := []) ⟨hx, hb, hml, hown, hts⟩ (kX12_canGive_1 l dC dI _ (ad 0) p1 p2 p3) (cwV 3 hts (jgoodV m_457 m_458 m_459 m_210 m_460) rfl rfl rfl (by decide +kernel) ⟨Nat.le_of_ble_eq_true rfl, Nat.le_of_ble_eq_true rfl⟩) ⟨jw_blind0, va_recv hK hP (ci := 12) (q0 := 0) rfl rfl, fun U hU hW => ⟨rfl, congrArg Array.size hU⟩⟩ rfl rfl hl.1 rfl (lv_room (Nat.le_of_ble_eq_true rfl)) dX12_given_4 ⟨Nat.le_of_ble_eq_true rfl, Nat.le_of_ble_eq_true rfl⟩) hP hS hA (fun r_1 H locs hw_1 hP hS => ?_)
  rcases (show (r_1 = 0) ∨ (¬ (p1 ≤ 0) ∧ ¬ (1073741824 ≤ p1) ∧ ¬ (p2 ≤ 0) ∧ ¬ (4096 ≤ p2) ∧ ¬ (7 < ((((((((p1 - (((Int32.toUInt32 p1 >>> (Int32.toUInt32 1 &&& Int32.toUInt32 31)).toInt32) &&& 1431655765)) &&& 858993459) + (((Int32.toUInt32 (p1 - (((Int32.toUInt32 p1 >>> (Int32.toUInt32 1 &&& Int32.toUInt32 31)).toInt32) &&& 1431655765)) >>> (Int32.toUInt32 2 &&& Int32.toUInt32 31)).toInt32) &&& 858993459)) + ((Int32.toUInt32 (((p1 - (((Int32.toUInt32 p1 >>> (Int32.toUInt32 1 &&& Int32.toUInt32 31)).toInt32) &&& 1431655765)) &&& 858993459) + (((Int32.toUInt32 (p1 - (((Int32.toUInt32 p1 >>> (Int32.toUInt32 1 &&& Int32.toUInt32 31)).toInt32) &&& 1431655765)) >>> (Int32.toUInt32 2 &&& Int32.toUInt32 31)).toInt32) &&& 858993459)) >>> (Int32.toUInt32 4 &&& Int32.toUInt32 31)).toInt32)) &&& 252645135) + ((Int32.toUInt32 (((((p1 - (((Int32.toUInt32 p1 >>> (Int32.toUInt32 1 &&& Int32.toUInt32 31)).toInt32) &&& 1431655765)) &&& 858993459) + (((Int32.toUInt32 (p1 - (((Int32.toUInt32 p1 >>> (Int32.toUInt32 1 &&& Int32.toUInt32 31)).toInt32) &&& 1431655765)) >>> (Int32.toUInt32 2 &&& Int32.toUInt32 31)).toInt32) &&& 858993459)) + ((Int32.toUInt32 (((p1 - (((Int32.toUInt32 p1 >>> (Int32.toUInt32 1 &&& Int32.toUInt32 31)).toInt32) &&& 1431655765)) &&& 858993459) + (((Int32.toUInt32 (p1 - (((Int32.toUInt32 p1 >>> (Int32.toUInt32 1 &&& Int32.toUInt32 31)).toInt32) &&& 1431655765)) >>> (Int32.toUInt32 2 &&& Int32.toUInt32 31)).toInt32) &&& 858993459)) >>> (Int32.toUInt32 4 &&& Int32.toUInt32 31)).toInt32)) &&& 252645135) >>> (Int32.toUInt32 8 &&& Int32.toUInt32 31)).toInt32)) + ((Int32.toUInt32 ((((((p1 - (((Int32.toUInt32 p1 >>> (Int32.toUInt32 1 &&& Int32.toUInt32 31)).toInt32) &&& 1431655765)) &&& 858993459) + (((Int32.toUInt32 (p1 - (((Int32.toUInt32 p1 >>> (Int32.toUInt32 1 &&& Int32.toUInt32 31)).toInt32) &&& 1431655765)) >>> (Int32.toUInt32 2 &&& Int32.toUInt32 31)).toInt32) &&& 858993459)) + ((Int32.toUInt32 (((p1 - (((Int32.toUInt32 p1 >>> (Int32.toUInt32 1 &&& Int32.toUInt32 31)).toInt32) &&& 1431655765)) &&& 858993459) + (((Int32.toUInt32 (p1 - (((Int32.toUInt32 p1 >>> (Int32.toUInt32 1 &&& Int32.toUInt32 31)).toInt32) &&& 1431655765)) >>> (Int32.toUInt32 2 &&& Int32.toUInt32 31)).toInt32) &&& 858993459)) >>> (Int32.toUInt32 4 &&& Int32.toUInt32 31)).toInt32)) &&& 252645135) + ((Int32.toUInt32 (((((p1 - (((Int32.toUInt32 p1 >>> (Int32.toUInt32 1 &&& Int32.toUInt32 31)).toInt32) &&& 1431655765)) &&& 858993459) + (((Int32.toUInt32 (p1 - (((Int32.toUInt32 p1 >>> (Int32.toUInt32 1 &&& Int32.toUInt32 31)).toInt32) &&& 1431655765)) >>> (Int32.toUInt32 2 &&& Int32.toUInt32 31)).toInt32) &&& 858993459)) + ((Int32.toUInt32 (((p1 - (((Int32.toUInt32 p1 >>> (Int32.toUInt32 1 &&& Int32.toUInt32 31)).toInt32) &&& 1431655765)) &&& 858993459) + (((Int32.toUInt32 (p1 - (((Int32.toUInt32 p1 >>> (Int32.toUInt32 1 &&& Int32.toUInt32 31)).toInt32) &&& 1431655765)) >>> (Int32.toUInt32 2 &&& Int32.toUInt32 31)).toInt32) &&& 858993459)) >>> (Int32.toUInt32 4 &&& Int32.toUInt32 31)).toInt32)) &&& 252645135) >>> (Int32.toUInt32 8 &&& Int32.toUInt32 31)).toInt32)) >>> (Int32.toUInt32 16 &&& Int32.toUInt32 31)).toInt32)) &&& 63)) ∧ ¬ (6 < ((((((((p2 - (((Int32.toUInt32 p2 >>> (Int32.toUInt32 1 &&& Int32.toUInt32 31)).toInt32) &&& 1431655765)) &&& 858993459) + (((Int32.toUInt32 (p2 - (((Int32.toUInt32 p2 >>> (Int32.toUInt32 1 &&& Int32.toUInt32 31)).toInt32) &&& 1431655765)) >>> (Int32.toUInt32 2 &&& Int32.toUInt32 31)).toInt32) &&& 858993459)) + ((Int32.toUInt32 (((p2 - (((Int32.toUInt32 p2 >>> (Int32.toUInt32 1 &&& Int32.toUInt32 31)).toInt32) &&& 1431655765)) &&& 858993459) + (((Int32.toUInt32 (p2 - (((Int32.toUInt32 p2 >>> (Int32.toUInt32 1 &&& Int32.toUInt32 31)).toInt32) &&& 1431655765)) >>> (Int32.toUInt32 2 &&& Int32.toUInt32 31)).toInt32) &&& 858993459)) >>> (Int32.toUInt32 4 &&& Int32.toUInt32 31)).toInt32)) &&& 252645135) + ((Int32.toUInt32 (((((p2 - (((Int32.toUInt32 p2 >>> (Int32.toUInt32 1 &&& Int32.toUInt32 31)).toInt32) &&& 1431655765)) &&& 858993459) + (((Int32.toUInt32 (p2 - (((Int32.toUInt32 p2 >>> (Int32.toUInt32 1 &&& Int32.toUInt32 31)).toInt32) &&& 1431655765)) >>> (Int32.toUInt32 2 &&& Int32.toUInt32 31)).toInt32) &&& 858993459)) + ((Int32.toUInt32 (((p2 - (((Int32.toUInt32 p2 >>> (Int32.toUInt32 1 &&& Int32.toUInt32 31)).toInt32) &&& 1431655765)) &&& 858993459) + (((Int32.toUInt32 (p2 - (((Int32.toUInt32 p2 >>> (Int32.toUInt32 1 &&& Int32.toUInt32 31)).toInt32) &&& 1431655765)) >>> (Int32.toUInt32 2 &&& Int32.toUInt32 31)).toInt32) &&& 858993459)) >>> (Int32.toUInt32 4 &&& Int32.toUInt32 31)).toInt32)) &&& 252645135) >>> (Int32.toUInt32 8 &&& Int32.toUInt32 31)).toInt32)) + ((Int32.toUInt32 ((((((p2 - (((Int32.toUInt32 p2 >>> (Int32.toUInt32 1 &&& Int32.toUInt32 31)).toInt32) &&& 1431655765)) &&& 858993459) + (((Int32.toUInt32 (p2 - (((Int32.toUInt32 p2 >>> (Int32.toUInt32 1 &&& Int32.toUInt32 31)).toInt32) &&& 1431655765)) >>> (Int32.toUInt32 2 &&& Int32.toUInt32 31)).toInt32) &&& 858993459)) + ((Int32.toUInt32 (((p2 - (((Int32.toUInt32 p2 >>> (Int32.toUInt32 1 &&& Int32.toUInt32 31)).toInt32) &&& 1431655765)) &&& 858993459) + (((Int32.toUInt32 (p2 - (((Int32.toUInt32 p2 >>> (Int32.toUInt32 1 &&& Int32.toUInt32 31)).toInt32) &&& 1431655765)) >>> (Int32.toUInt32 2 &&& Int32.toUInt32 31)).toInt32) &&& 858993459)) >>> (Int32.toUInt32 4 &&& Int32.toUInt32 31)).toInt32)) &&& 252645135) + ((Int32.toUInt32 (((((p2 - (((Int32.toUInt32 p2 >>> (Int32.toUInt32 1 &&& Int32.toUInt32 31)).toInt32) &&& 1431655765)) &&& 858993459) + (((Int32.toUInt32 (p2 - (((Int32.toUInt32 p2 >>> (Int32.toUInt32 1 &&& Int32.toUInt32 31)).toInt32) &&& 1431655765)) >>> (Int32.toUInt32 2 &&& Int32.toUInt32 31)).toInt32) &&& 858993459)) + ((Int32.toUInt32 (((p2 - (((Int32.toUInt32 p2 >>> (Int32.toUInt32 1 &&& Int32.toUInt32 31)).toInt32) &&& 1431655765)) &&& 858993459) + (((Int32.toUInt32 (p2 - (((Int32.toUInt32 p2 >>> (Int32.toUInt32 1 &&& Int32.toUInt32 31)).toInt32) &&& 1431655765)) >>> (Int32.toUInt32 2 &&& Int32.toUInt32 31)).toInt32) &&& 858993459)) >>> (Int32.toUInt32 4 &&& Int32.toUInt32 31)).toInt32)) &&& 252645135) >>> (Int32.toUInt32 8 &&& Int32.toUInt32 31)).toInt32)) >>> (Int32.toUInt32 16 &&& Int32.toUInt32 31)).toInt32)) &&& 63)) ∧ ¬ (p3 < 1) ∧ ¬ (400 < p3) ∧ r_1 = 1) from hw_1) with e_1_0 | ⟨c_2, c_3, c_4, c_5, c_6, c_7, c_8, c_9, e_9_1⟩
  · have e_1_0 := e_1_0.symm
    subst e_1_0
    refine lv_if_eq (tgt := 31) hx hb dX12_given_7 (by decide) (fun _ => ?_) (fun z => absurd (by decide) z)
    refine lv_iconst (v := 0) hx hb dX12_given_31 (by decide) ?_
    refine lv_istore (lv' := [(5, .int 0), (0, .ref (ad 0)), (1, .int p1), (2, .int p2), (3, .int p3), (4, .int p4)]) hx hb dX12_given_32 hl (by decide) rfl (fun ls hl => ?_)
    refine lv_iload hx hb dX12_given_34 (lv_at hl 0 rfl) ?_
    refine lv_if_eq (tgt := 61) hx hb dX12_given_36 (by decide) (fun _ => ?_) (fun z => absurd (by decide) z)
    refine lv_iconst (v := (-1)) hx hb dX12_given_61 (by decide) ?_
    exact W.iret (v := (-1)) hx hb hr (fun t ht hW => ⟨⟨(-1), (), rfl, rfl, trivial⟩, hS.F ht⟩) hS.2.2 dX12_given_62
  · have e_9_1 := e_9_1.symm
    subst e_9_1
    refine lv_if_eq (tgt := 31) hx hb dX12_given_7 (by decide) (fun z => absurd z (by decide)) (fun _ => ?_)
    refine lv_aload_n hx hb dX12_given_10 rfl (lv_at hl 0 rfl) ?_
    refine lv_iload_n hx hb dX12_given_11 rfl (lv_at hl 2 rfl) ?_
    refine lv_iload_n hx hb dX12_given_12 rfl (lv_at hl 3 rfl) ?_
    refine jcw_i (va_runV (As := [.int p2, .int p3]) (rest := []) ⟨hx, hb, hml, hown, hts⟩ (kX12_addHands_4 l dC dI _ ad ca p2 p3 (jl_nle (d := 1) c_4 (by decide)) (jl_nge (d := 4095) c_5 (by decide)) (jl_nlt c_8) (jl_ngt c_9)) (cwV 2 hts (jgoodV m_469 m_470 m_471 m_210 m_472) rfl rfl rfl (by decide +kernel) ⟨Nat.le_of_ble_eq_true rfl, Nat.le_of_ble_eq_true rfl⟩) ⟨jw_blind, va_recv hK hP (ci := 12) (q0 := 0) rfl rfl, fun U hU hW => ⟨rfl, jw_of hU hW hP hK hD⟩⟩ rfl rfl hl.1 rfl (lv_room (Nat.le_of_ble_eq_true rfl)) dX12_given_13 ⟨Nat.le_of_ble_eq_true rfl, Nat.le_of_ble_eq_true rfl⟩) hD hS hA (fun r_10 H locs hw_10 hP hK hD hS => ?_)
    have hw_10 : 0 = r_10 := Eq.symm hw_10
    subst hw_10
    refine lv_if_eq (tgt := 31) hx hb dX12_given_16 (by decide) (fun _ => ?_) (fun z => absurd (by decide) z)
    refine lv_iconst (v := 0) hx hb dX12_given_31 (by decide) ?_
    refine lv_istore (lv' := [(5, .int 0), (0, .ref (ad 0)), (1, .int p1), (2, .int p2), (3, .int p3), (4, .int p4)]) hx hb dX12_given_32 hl (by decide) rfl (fun ls hl => ?_)
    refine lv_iload hx hb dX12_given_34 (lv_at hl 0 rfl) ?_
    refine lv_if_eq (tgt := 61) hx hb dX12_given_36 (by decide) (fun _ => ?_) (fun z => absurd (by decide) z)
    refine lv_iconst (v := (-1)) hx hb dX12_given_61 (by decide) ?_
    exact W.iret (v := (-1)) hx hb hr (fun t ht hW => ⟨⟨(-1), (), rfl, rfl, trivial⟩, hS.F ht⟩) hS.2.2 dX12_given_62
set_option maxHeartbeats 500000 in
set_option maxRecDepth 100000 in
theorem tX12_index_v0 (l : Launch) (dC : Nat → ClassId) (dI : Nat → Nat → Nat) (sz : Nat) (ad : Nat → Nat) (ca : Nat → ClassId) (p1 : Int32) (p3 : Int32) : Met l yX12_index (jk yX12_index cX12_index 9 (some .int)) ({ frames := 3, cells := 0, slots := 0, locals := 64 }) (va_Pc [.ref (ad 0), .int p1, .int 0, .int p3] (jw_P (dC, dI) (xW ad ca) (xT ca) sz)) (va_Qi (fun (r : Int32) (_ : Unit) => (r = (-1))) (fun _ _ => True) (va_A [] sz)) 0 0 (va_A [] sz) := by
  refine Met.ofW (cc := cX12_index) (maxL := 9) (ret := (some .int)) (by decide) rfl ?_
  intro p e s m args below meth c s₁ B hml hv
  obtain ⟨rfl, hsz, hP, hK, hD0⟩ := hv
  have hx := B.exec
  have hb := B.bytes
  have hr := B.returns
  have hts := atoms_spec (ws := (jk yX12_index cX12_index 9 (some .int))) B.pre
  have hown : s.vm.findClass RX12 = some m.cls := findClass_of_methodNamed B.named
  have hlocks := B.notSynchronized
  subst hsz
  have hD := hD0
  generalize hAe : (va_A [] s.heap.size) = A
  have hA : ∀ q : Nat, s.heap.size ≤ q → A q := fun q h => by rw [← hAe]; exact Or.inr h
  have hS : va_S A s.heap s.heap [] := va_S.rf
  have hP : va_P (dC, dI) vwCl (xW ad ca) s.heap := hP
  have hl := lv_entry ([.ref (ad 0), .int p1, .int 0, .int p3]) (n := 9) (Nat.le_of_ble_eq_true rfl)
  rw [lg_entry_eq]
  generalize (lg_sl ([.ref (ad 0), .int p1, .int 0, .int p3]) ++ List.replicate (9 - (lg_sl ([.ref (ad 0), .int p1, .int 0, .int p3])).length) Slot.unset).toArray = ls at hl ⊢
  have hl : lv_has ls 9 [(0, .ref (ad 0)), (1, .int p1), (2, .int 0), (3, .int p3)] := hl
  refine lv_aload_n hx hb dX12_index_0 rfl (lv_at hl 0 rfl) ?_
  refine lv_iload_n hx hb dX12_index_1 rfl (lv_at hl 2 rfl) ?_
  refine jc_q (va_runV (As := [.int 0]) (rest := []) ⟨hx, hb, hml, hown, hts⟩ (kX12_setVolumeAt_2 l dC dI _ ad ca) (cwV 1 hts (jgoodV m_418 m_419 m_420 m_210 m_421) rfl rfl rfl (by decide +kernel) ⟨Nat.le_of_ble_eq_true rfl, Nat.le_of_ble_eq_true rfl⟩) ⟨jw_blind, va_recv hK hP (ci := 12) (q0 := 0) rfl rfl, fun U hU hW => ⟨rfl, jw_of hU hW hP hK hD⟩⟩ rfl rfl hl.1 rfl (lv_room (Nat.le_of_ble_eq_true rfl)) dX12_index_2 ⟨Nat.le_of_ble_eq_true rfl, Nat.le_of_ble_eq_true rfl⟩) hP hS hA (fun r_1 H locs hw_1 hP hS => ?_)
  have hw_1 : none = r_1 := Eq.symm hw_1
  subst hw_1
  refine jt_q Value.null rfl ?_
  refine lv_astoreN (lv' := [(4, .null), (0, .ref (ad 0)), (1, .int p1), (2, .int 0), (3, .int p3)]) hx hb dX12_index_5 hl (by decide) rfl (fun ls hl => ?_)
  refine lv_aloadN hx hb dX12_index_7 (lv_at hl 0 rfl) ?_
  refine lv_ifnullN (tgt := 16) hx hb dX12_index_9 (by decide) ?_
  refine lv_iconst (v := (-1)) hx hb dX12_index_16 (by decide) ?_
  exact W.iret (v := (-1)) hx hb hr (fun t ht hW => ⟨⟨(-1), (), rfl, rfl, trivial⟩, hS.F ht⟩) hS.2.2 dX12_index_17
set_option maxHeartbeats 500000 in
set_option maxRecDepth 100000 in
theorem tX12_index_v1 (l : Launch) (dC : Nat → ClassId) (dI : Nat → Nat → Nat) (sz : Nat) (ad : Nat → Nat) (ca : Nat → ClassId) (p1 : Int32) (p3 : Int32) : Met l yX12_index (jk yX12_index cX12_index 9 (some .int)) ({ frames := 3, cells := 0, slots := 0, locals := 64 }) (va_Pc [.ref (ad 0), .int p1, .int 1, .int p3] (jw_P (dC, dI) (xW ad ca) (xT ca) sz)) (va_Qi (fun (r : Int32) (_ : Unit) => (r = (-1))) (fun _ _ => True) (va_A [] sz)) 0 0 (va_A [] sz) := by
  refine Met.ofW (cc := cX12_index) (maxL := 9) (ret := (some .int)) (by decide) rfl ?_
  intro p e s m args below meth c s₁ B hml hv
  obtain ⟨rfl, hsz, hP, hK, hD0⟩ := hv
  have hx := B.exec
  have hb := B.bytes
  have hr := B.returns
  have hts := atoms_spec (ws := (jk yX12_index cX12_index 9 (some .int))) B.pre
  have hown : s.vm.findClass RX12 = some m.cls := findClass_of_methodNamed B.named
  have hlocks := B.notSynchronized
  subst hsz
  have hD := hD0
  generalize hAe : (va_A [] s.heap.size) = A
  have hA : ∀ q : Nat, s.heap.size ≤ q → A q := fun q h => by rw [← hAe]; exact Or.inr h
  have hS : va_S A s.heap s.heap [] := va_S.rf
  have hP : va_P (dC, dI) vwCl (xW ad ca) s.heap := hP
  have hl := lv_entry ([.ref (ad 0), .int p1, .int 1, .int p3]) (n := 9) (Nat.le_of_ble_eq_true rfl)
  rw [lg_entry_eq]
  generalize (lg_sl ([.ref (ad 0), .int p1, .int 1, .int p3]) ++ List.replicate (9 - (lg_sl ([.ref (ad 0), .int p1, .int 1, .int p3])).length) Slot.unset).toArray = ls at hl ⊢
  have hl : lv_has ls 9 [(0, .ref (ad 0)), (1, .int p1), (2, .int 1), (3, .int p3)] := hl
  refine lv_aload_n hx hb dX12_index_0 rfl (lv_at hl 0 rfl) ?_
  refine lv_iload_n hx hb dX12_index_1 rfl (lv_at hl 2 rfl) ?_
  refine jc_q (va_runV (As := [.int 1]) (rest := []) ⟨hx, hb, hml, hown, hts⟩ (kX12_setVolumeAt_4 l dC dI _ ad ca) (cwV 1 hts (jgoodV m_418 m_419 m_420 m_210 m_421) rfl rfl rfl (by decide +kernel) ⟨Nat.le_of_ble_eq_true rfl, Nat.le_of_ble_eq_true rfl⟩) ⟨jw_blind, va_recv hK hP (ci := 12) (q0 := 0) rfl rfl, fun U hU hW => ⟨rfl, jw_of hU hW hP hK hD⟩⟩ rfl rfl hl.1 rfl (lv_room (Nat.le_of_ble_eq_true rfl)) dX12_index_2 ⟨Nat.le_of_ble_eq_true rfl, Nat.le_of_ble_eq_true rfl⟩) hP hS hA (fun r_1 H locs hw_1 hP hS => ?_)
  have hw_1 : none = r_1 := Eq.symm hw_1
  subst hw_1
  refine jt_q Value.null rfl ?_
  refine lv_astoreN (lv' := [(4, .null), (0, .ref (ad 0)), (1, .int p1), (2, .int 1), (3, .int p3)]) hx hb dX12_index_5 hl (by decide) rfl (fun ls hl => ?_)
  refine lv_aloadN hx hb dX12_index_7 (lv_at hl 0 rfl) ?_
  refine lv_ifnullN (tgt := 16) hx hb dX12_index_9 (by decide) ?_
  refine lv_iconst (v := (-1)) hx hb dX12_index_16 (by decide) ?_
  exact W.iret (v := (-1)) hx hb hr (fun t ht hW => ⟨⟨(-1), (), rfl, rfl, trivial⟩, hS.F ht⟩) hS.2.2 dX12_index_17
set_option maxHeartbeats 500000 in
set_option maxRecDepth 100000 in
theorem tX12_index_v2 (l : Launch) (dC : Nat → ClassId) (dI : Nat → Nat → Nat) (sz : Nat) (ad : Nat → Nat) (ca : Nat → ClassId) (p1 : Int32) (p3 : Int32) : Met l yX12_index (jk yX12_index cX12_index 9 (some .int)) ({ frames := 3, cells := 0, slots := 0, locals := 64 }) (va_Pc [.ref (ad 0), .int p1, .int 2, .int p3] (jw_P (dC, dI) (xW ad ca) (xT ca) sz)) (va_Qi (fun (r : Int32) (_ : Unit) => (r = (-1))) (fun _ _ => True) (va_A [] sz)) 0 0 (va_A [] sz) := by
  refine Met.ofW (cc := cX12_index) (maxL := 9) (ret := (some .int)) (by decide) rfl ?_
  intro p e s m args below meth c s₁ B hml hv
  obtain ⟨rfl, hsz, hP, hK, hD0⟩ := hv
  have hx := B.exec
  have hb := B.bytes
  have hr := B.returns
  have hts := atoms_spec (ws := (jk yX12_index cX12_index 9 (some .int))) B.pre
  have hown : s.vm.findClass RX12 = some m.cls := findClass_of_methodNamed B.named
  have hlocks := B.notSynchronized
  subst hsz
  have hD := hD0
  generalize hAe : (va_A [] s.heap.size) = A
  have hA : ∀ q : Nat, s.heap.size ≤ q → A q := fun q h => by rw [← hAe]; exact Or.inr h
  have hS : va_S A s.heap s.heap [] := va_S.rf
  have hP : va_P (dC, dI) vwCl (xW ad ca) s.heap := hP
  have hl := lv_entry ([.ref (ad 0), .int p1, .int 2, .int p3]) (n := 9) (Nat.le_of_ble_eq_true rfl)
  rw [lg_entry_eq]
  generalize (lg_sl ([.ref (ad 0), .int p1, .int 2, .int p3]) ++ List.replicate (9 - (lg_sl ([.ref (ad 0), .int p1, .int 2, .int p3])).length) Slot.unset).toArray = ls at hl ⊢
  have hl : lv_has ls 9 [(0, .ref (ad 0)), (1, .int p1), (2, .int 2), (3, .int p3)] := hl
  refine lv_aload_n hx hb dX12_index_0 rfl (lv_at hl 0 rfl) ?_
  refine lv_iload_n hx hb dX12_index_1 rfl (lv_at hl 2 rfl) ?_
  refine jc_q (va_runV (As := [.int 2]) (rest := []) ⟨hx, hb, hml, hown, hts⟩ (kX12_setVolumeAt_6 l dC dI _ ad ca) (cwV 1 hts (jgoodV m_418 m_419 m_420 m_210 m_421) rfl rfl rfl (by decide +kernel) ⟨Nat.le_of_ble_eq_true rfl, Nat.le_of_ble_eq_true rfl⟩) ⟨jw_blind, va_recv hK hP (ci := 12) (q0 := 0) rfl rfl, fun U hU hW => ⟨rfl, jw_of hU hW hP hK hD⟩⟩ rfl rfl hl.1 rfl (lv_room (Nat.le_of_ble_eq_true rfl)) dX12_index_2 ⟨Nat.le_of_ble_eq_true rfl, Nat.le_of_ble_eq_true rfl⟩) hP hS hA (fun r_1 H locs hw_1 hP hS => ?_)
  have hw_1 : none = r_1 := Eq.symm hw_1
  subst hw_1
  refine jt_q Value.null rfl ?_
  refine lv_astoreN (lv' := [(4, .null), (0, .ref (ad 0)), (1, .int p1), (2, .int 2), (3, .int p3)]) hx hb dX12_index_5 hl (by decide) rfl (fun ls hl => ?_)
  refine lv_aloadN hx hb dX12_index_7 (lv_at hl 0 rfl) ?_
  refine lv_ifnullN (tgt := 16) hx hb dX12_index_9 (by decide) ?_
  refine lv_iconst (v := (-1)) hx hb dX12_index_16 (by decide) ?_
  exact W.iret (v := (-1)) hx hb hr (fun t ht hW => ⟨⟨(-1), (), rfl, rfl, trivial⟩, hS.F ht⟩) hS.2.2 dX12_index_17
set_option maxHeartbeats 500000 in
set_option maxRecDepth 100000 in
theorem tX12_index_v3 (l : Launch) (dC : Nat → ClassId) (dI : Nat → Nat → Nat) (sz : Nat) (ad : Nat → Nat) (ca : Nat → ClassId) (p1 : Int32) (p3 : Int32) : Met l yX12_index (jk yX12_index cX12_index 9 (some .int)) ({ frames := 3, cells := 0, slots := 0, locals := 64 }) (va_Pc [.ref (ad 0), .int p1, .int 3, .int p3] (jw_P (dC, dI) (xW ad ca) (xT ca) sz)) (va_Qi (fun (r : Int32) (_ : Unit) => (r = (-1))) (fun _ _ => True) (va_A [] sz)) 0 0 (va_A [] sz) := by
  refine Met.ofW (cc := cX12_index) (maxL := 9) (ret := (some .int)) (by decide) rfl ?_
  intro p e s m args below meth c s₁ B hml hv
  obtain ⟨rfl, hsz, hP, hK, hD0⟩ := hv
  have hx := B.exec
  have hb := B.bytes
  have hr := B.returns
  have hts := atoms_spec (ws := (jk yX12_index cX12_index 9 (some .int))) B.pre
  have hown : s.vm.findClass RX12 = some m.cls := findClass_of_methodNamed B.named
  have hlocks := B.notSynchronized
  subst hsz
  have hD := hD0
  generalize hAe : (va_A [] s.heap.size) = A
  have hA : ∀ q : Nat, s.heap.size ≤ q → A q := fun q h => by rw [← hAe]; exact Or.inr h
  have hS : va_S A s.heap s.heap [] := va_S.rf
  have hP : va_P (dC, dI) vwCl (xW ad ca) s.heap := hP
  have hl := lv_entry ([.ref (ad 0), .int p1, .int 3, .int p3]) (n := 9) (Nat.le_of_ble_eq_true rfl)
  rw [lg_entry_eq]
  generalize (lg_sl ([.ref (ad 0), .int p1, .int 3, .int p3]) ++ List.replicate (9 - (lg_sl ([.ref (ad 0), .int p1, .int 3, .int p3])).length) Slot.unset).toArray = ls at hl ⊢
  have hl : lv_has ls 9 [(0, .ref (ad 0)), (1, .int p1), (2, .int 3), (3, .int p3)] := hl
  refine lv_aload_n hx hb dX12_index_0 rfl (lv_at hl 0 rfl) ?_
  refine lv_iload_n hx hb dX12_index_1 rfl (lv_at hl 2 rfl) ?_
  refine jc_q (va_runV (As := [.int 3]) (rest := []) ⟨hx, hb, hml, hown, hts⟩ (kX12_setVolumeAt_8 l dC dI _ ad ca) (cwV 1 hts (jgoodV m_418 m_419 m_420 m_210 m_421) rfl rfl rfl (by decide +kernel) ⟨Nat.le_of_ble_eq_true rfl, Nat.le_of_ble_eq_true rfl⟩) ⟨jw_blind, va_recv hK hP (ci := 12) (q0 := 0) rfl rfl, fun U hU hW => ⟨rfl, jw_of hU hW hP hK hD⟩⟩ rfl rfl hl.1 rfl (lv_room (Nat.le_of_ble_eq_true rfl)) dX12_index_2 ⟨Nat.le_of_ble_eq_true rfl, Nat.le_of_ble_eq_true rfl⟩) hP hS hA (fun r_1 H locs hw_1 hP hS => ?_)
  have hw_1 : none = r_1 := Eq.symm hw_1
  subst hw_1
  refine jt_q Value.null rfl ?_
  refine lv_astoreN (lv' := [(4, .null), (0, .ref (ad 0)), (1, .int p1), (2, .int 3), (3, .int p3)]) hx hb dX12_index_5 hl (by decide) rfl (fun ls hl => ?_)
  refine lv_aloadN hx hb dX12_index_7 (lv_at hl 0 rfl) ?_
  refine lv_ifnullN (tgt := 16) hx hb dX12_index_9 (by decide) ?_
  refine lv_iconst (v := (-1)) hx hb dX12_index_16 (by decide) ?_
  exact W.iret (v := (-1)) hx hb hr (fun t ht hW => ⟨⟨(-1), (), rfl, rfl, trivial⟩, hS.F ht⟩) hS.2.2 dX12_index_17
set_option maxHeartbeats 500000 in
set_option maxRecDepth 100000 in
theorem tX12_index_v4 (l : Launch) (dC : Nat → ClassId) (dI : Nat → Nat → Nat) (sz : Nat) (ad : Nat → Nat) (ca : Nat → ClassId) (p1 : Int32) (p3 : Int32) : Met l yX12_index (jk yX12_index cX12_index 9 (some .int)) ({ frames := 3, cells := 0, slots := 0, locals := 64 }) (va_Pc [.ref (ad 0), .int p1, .int 4, .int p3] (jw_P (dC, dI) (xW ad ca) (xT ca) sz)) (va_Qi (fun (r : Int32) (_ : Unit) => (r = (-1))) (fun _ _ => True) (va_A [] sz)) 0 0 (va_A [] sz) := by
  refine Met.ofW (cc := cX12_index) (maxL := 9) (ret := (some .int)) (by decide) rfl ?_
  intro p e s m args below meth c s₁ B hml hv
  obtain ⟨rfl, hsz, hP, hK, hD0⟩ := hv
  have hx := B.exec
  have hb := B.bytes
  have hr := B.returns
  have hts := atoms_spec (ws := (jk yX12_index cX12_index 9 (some .int))) B.pre
  have hown : s.vm.findClass RX12 = some m.cls := findClass_of_methodNamed B.named
  have hlocks := B.notSynchronized
  subst hsz
  have hD := hD0
  generalize hAe : (va_A [] s.heap.size) = A
  have hA : ∀ q : Nat, s.heap.size ≤ q → A q := fun q h => by rw [← hAe]; exact Or.inr h
  have hS : va_S A s.heap s.heap [] := va_S.rf
  have hP : va_P (dC, dI) vwCl (xW ad ca) s.heap := hP
  have hl := lv_entry ([.ref (ad 0), .int p1, .int 4, .int p3]) (n := 9) (Nat.le_of_ble_eq_true rfl)
  rw [lg_entry_eq]
  generalize (lg_sl ([.ref (ad 0), .int p1, .int 4, .int p3]) ++ List.replicate (9 - (lg_sl ([.ref (ad 0), .int p1, .int 4, .int p3])).length) Slot.unset).toArray = ls at hl ⊢
  have hl : lv_has ls 9 [(0, .ref (ad 0)), (1, .int p1), (2, .int 4), (3, .int p3)] := hl
  refine lv_aload_n hx hb dX12_index_0 rfl (lv_at hl 0 rfl) ?_
  refine lv_iload_n hx hb dX12_index_1 rfl (lv_at hl 2 rfl) ?_
  refine jc_q (va_runV (As := [.int 4]) (rest := []) ⟨hx, hb, hml, hown, hts⟩ (kX12_setVolumeAt_10 l dC dI _ ad ca) (cwV 1 hts (jgoodV m_418 m_419 m_420 m_210 m_421) rfl rfl rfl (by decide +kernel) ⟨Nat.le_of_ble_eq_true rfl, Nat.le_of_ble_eq_true rfl⟩) ⟨jw_blind, va_recv hK hP (ci := 12) (q0 := 0) rfl rfl, fun U hU hW => ⟨rfl, jw_of hU hW hP hK hD⟩⟩ rfl rfl hl.1 rfl (lv_room (Nat.le_of_ble_eq_true rfl)) dX12_index_2 ⟨Nat.le_of_ble_eq_true rfl, Nat.le_of_ble_eq_true rfl⟩) hP hS hA (fun r_1 H locs hw_1 hP hS => ?_)
  have hw_1 : none = r_1 := Eq.symm hw_1
  subst hw_1
  refine jt_q Value.null rfl ?_
  refine lv_astoreN (lv' := [(4, .null), (0, .ref (ad 0)), (1, .int p1), (2, .int 4), (3, .int p3)]) hx hb dX12_index_5 hl (by decide) rfl (fun ls hl => ?_)
  refine lv_aloadN hx hb dX12_index_7 (lv_at hl 0 rfl) ?_
  refine lv_ifnullN (tgt := 16) hx hb dX12_index_9 (by decide) ?_
  refine lv_iconst (v := (-1)) hx hb dX12_index_16 (by decide) ?_
  exact W.iret (v := (-1)) hx hb hr (fun t ht hW => ⟨⟨(-1), (), rfl, rfl, trivial⟩, hS.F ht⟩) hS.2.2 dX12_index_17
set_option maxHeartbeats 500000 in
set_option maxRecDepth 100000 in
theorem tX12_index_v5 (l : Launch) (dC : Nat → ClassId) (dI : Nat → Nat → Nat) (sz : Nat) (ad : Nat → Nat) (ca : Nat → ClassId) (p1 : Int32) (p3 : Int32) : Met l yX12_index (jk yX12_index cX12_index 9 (some .int)) ({ frames := 3, cells := 0, slots := 0, locals := 64 }) (va_Pc [.ref (ad 0), .int p1, .int 5, .int p3] (jw_P (dC, dI) (xW ad ca) (xT ca) sz)) (va_Qi (fun (r : Int32) (_ : Unit) => (r = (-1))) (fun _ _ => True) (va_A [] sz)) 0 0 (va_A [] sz) := by
  refine Met.ofW (cc := cX12_index) (maxL := 9) (ret := (some .int)) (by decide) rfl ?_
  intro p e s m args below meth c s₁ B hml hv
  obtain ⟨rfl, hsz, hP, hK, hD0⟩ := hv
  have hx := B.exec
  have hb := B.bytes
  have hr := B.returns
  have hts := atoms_spec (ws := (jk yX12_index cX12_index 9 (some .int))) B.pre
  have hown : s.vm.findClass RX12 = some m.cls := findClass_of_methodNamed B.named
  have hlocks := B.notSynchronized
  subst hsz
  have hD := hD0
  generalize hAe : (va_A [] s.heap.size) = A
  have hA : ∀ q : Nat, s.heap.size ≤ q → A q := fun q h => by rw [← hAe]; exact Or.inr h
  have hS : va_S A s.heap s.heap [] := va_S.rf
  have hP : va_P (dC, dI) vwCl (xW ad ca) s.heap := hP
  have hl := lv_entry ([.ref (ad 0), .int p1, .int 5, .int p3]) (n := 9) (Nat.le_of_ble_eq_true rfl)
  rw [lg_entry_eq]
  generalize (lg_sl ([.ref (ad 0), .int p1, .int 5, .int p3]) ++ List.replicate (9 - (lg_sl ([.ref (ad 0), .int p1, .int 5, .int p3])).length) Slot.unset).toArray = ls at hl ⊢
  have hl : lv_has ls 9 [(0, .ref (ad 0)), (1, .int p1), (2, .int 5), (3, .int p3)] := hl
  refine lv_aload_n hx hb dX12_index_0 rfl (lv_at hl 0 rfl) ?_
  refine lv_iload_n hx hb dX12_index_1 rfl (lv_at hl 2 rfl) ?_
  refine jc_q (va_runV (As := [.int 5]) (rest := []) ⟨hx, hb, hml, hown, hts⟩ (kX12_setVolumeAt_12 l dC dI _ ad ca) (cwV 1 hts (jgoodV m_418 m_419 m_420 m_210 m_421) rfl rfl rfl (by decide +kernel) ⟨Nat.le_of_ble_eq_true rfl, Nat.le_of_ble_eq_true rfl⟩) ⟨jw_blind, va_recv hK hP (ci := 12) (q0 := 0) rfl rfl, fun U hU hW => ⟨rfl, jw_of hU hW hP hK hD⟩⟩ rfl rfl hl.1 rfl (lv_room (Nat.le_of_ble_eq_true rfl)) dX12_index_2 ⟨Nat.le_of_ble_eq_true rfl, Nat.le_of_ble_eq_true rfl⟩) hP hS hA (fun r_1 H locs hw_1 hP hS => ?_)
  have hw_1 : none = r_1 := Eq.symm hw_1
  subst hw_1
  refine jt_q Value.null rfl ?_
  refine lv_astoreN (lv' := [(4, .null), (0, .ref (ad 0)), (1, .int p1), (2, .int 5), (3, .int p3)]) hx hb dX12_index_5 hl (by decide) rfl (fun ls hl => ?_)
  refine lv_aloadN hx hb dX12_index_7 (lv_at hl 0 rfl) ?_
  refine lv_ifnullN (tgt := 16) hx hb dX12_index_9 (by decide) ?_
  refine lv_iconst (v := (-1)) hx hb dX12_index_16 (by decide) ?_
  exact W.iret (v := (-1)) hx hb hr (fun t ht hW => ⟨⟨(-1), (), rfl, rfl, trivial⟩, hS.F ht⟩) hS.2.2 dX12_index_17
set_option maxHeartbeats 500000 in
set_option maxRecDepth 100000 in
theorem tX12_index_lo (l : Launch) (dC : Nat → ClassId) (dI : Nat → Nat → Nat) (sz : Nat) (ad : Nat → Nat) (ca : Nat → ClassId) (p1 : Int32) (p2 : Int32) (p3 : Int32) (fh_p2 : p2 ≤ (-1)) : Met l yX12_index (jk yX12_index cX12_index 9 (some .int)) ({ frames := 3, cells := 0, slots := 0, locals := 64 }) (va_Pc [.ref (ad 0), .int p1, .int p2, .int p3] (jw_P (dC, dI) (xW ad ca) (xT ca) sz)) (va_Qi (fun (r : Int32) (_ : Unit) => (r = (-1))) (fun _ _ => True) (va_A [] sz)) 0 0 (va_A [] sz) := by
  refine Met.ofW (cc := cX12_index) (maxL := 9) (ret := (some .int)) (by decide) rfl ?_
  intro p e s m args below meth c s₁ B hml hv
  obtain ⟨rfl, hsz, hP, hK, hD0⟩ := hv
  have hx := B.exec
  have hb := B.bytes
  have hr := B.returns
  have hts := atoms_spec (ws := (jk yX12_index cX12_index 9 (some .int))) B.pre
  have hown : s.vm.findClass RX12 = some m.cls := findClass_of_methodNamed B.named
  have hlocks := B.notSynchronized
  subst hsz
  have hD := hD0
  generalize hAe : (va_A [] s.heap.size) = A
  have hA : ∀ q : Nat, s.heap.size ≤ q → A q := fun q h => by rw [← hAe]; exact Or.inr h
  have hS : va_S A s.heap s.heap [] := va_S.rf
  have hP : va_P (dC, dI) vwCl (xW ad ca) s.heap := hP
  have hl := lv_entry ([.ref (ad 0), .int p1, .int p2, .int p3]) (n := 9) (Nat.le_of_ble_eq_true rfl)
  rw [lg_entry_eq]
  generalize (lg_sl ([.ref (ad 0), .int p1, .int p2, .int p3]) ++ List.replicate (9 - (lg_sl ([.ref (ad 0), .int p1, .int p2, .int p3])).length) Slot.unset).toArray = ls at hl ⊢
  have hl : lv_has ls 9 [(0, .ref (ad 0)), (1, .int p1), (2, .int p2), (3, .int p3)] := hl
  refine lv_aload_n hx hb dX12_index_0 rfl (lv_at hl 0 rfl) ?_
  refine lv_iload_n hx hb dX12_index_1 rfl (lv_at hl 2 rfl) ?_
  refine jc_q (va_runV (As := [.int p2]) (rest := []) ⟨hx, hb, hml, hown, hts⟩ (kX12_setVolumeAt_16 l dC dI _ ad ca p2 fh_p2) (cwV 1 hts (jgoodV m_418 m_419 m_420 m_210 m_421) rfl rfl rfl (by decide +kernel) ⟨Nat.le_of_ble_eq_true rfl, Nat.le_of_ble_eq_true rfl⟩) ⟨jw_blind, va_recv hK hP (ci := 12) (q0 := 0) rfl rfl, fun U hU hW => ⟨rfl, jw_of hU hW hP hK hD⟩⟩ rfl rfl hl.1 rfl (lv_room (Nat.le_of_ble_eq_true rfl)) dX12_index_2 ⟨Nat.le_of_ble_eq_true rfl, Nat.le_of_ble_eq_true rfl⟩) hP hS hA (fun r_1 H locs hw_1 hP hS => ?_)
  have hw_1 : none = r_1 := Eq.symm hw_1
  subst hw_1
  refine jt_q Value.null rfl ?_
  refine lv_astoreN (lv' := [(4, .null), (0, .ref (ad 0)), (1, .int p1), (2, .int p2), (3, .int p3)]) hx hb dX12_index_5 hl (by decide) rfl (fun ls hl => ?_)
  refine lv_aloadN hx hb dX12_index_7 (lv_at hl 0 rfl) ?_
  refine lv_ifnullN (tgt := 16) hx hb dX12_index_9 (by decide) ?_
  refine lv_iconst (v := (-1)) hx hb dX12_index_16 (by decide) ?_
  exact W.iret (v := (-1)) hx hb hr (fun t ht hW => ⟨⟨(-1), (), rfl, rfl, trivial⟩, hS.F ht⟩) hS.2.2 dX12_index_17
set_option maxHeartbeats 500000 in
set_option maxRecDepth 100000 in
theorem tX12_index_hi (l : Launch) (dC : Nat → ClassId) (dI : Nat → Nat → Nat) (sz : Nat) (ad : Nat → Nat) (ca : Nat → ClassId) (p1 : Int32) (p2 : Int32) (p3 : Int32) (fl_p2 : 6 ≤ p2) : Met l yX12_index (jk yX12_index cX12_index 9 (some .int)) ({ frames := 3, cells := 0, slots := 0, locals := 64 }) (va_Pc [.ref (ad 0), .int p1, .int p2, .int p3] (jw_P (dC, dI) (xW ad ca) (xT ca) sz)) (va_Qi (fun (r : Int32) (_ : Unit) => (r = (-1))) (fun _ _ => True) (va_A [] sz)) 0 0 (va_A [] sz) := by
  refine Met.ofW (cc := cX12_index) (maxL := 9) (ret := (some .int)) (by decide) rfl ?_
  intro p e s m args below meth c s₁ B hml hv
  obtain ⟨rfl, hsz, hP, hK, hD0⟩ := hv
  have hx := B.exec
  have hb := B.bytes
  have hr := B.returns
  have hts := atoms_spec (ws := (jk yX12_index cX12_index 9 (some .int))) B.pre
  have hown : s.vm.findClass RX12 = some m.cls := findClass_of_methodNamed B.named
  have hlocks := B.notSynchronized
  subst hsz
  have hD := hD0
  generalize hAe : (va_A [] s.heap.size) = A
  have hA : ∀ q : Nat, s.heap.size ≤ q → A q := fun q h => by rw [← hAe]; exact Or.inr h
  have hS : va_S A s.heap s.heap [] := va_S.rf
  have hP : va_P (dC, dI) vwCl (xW ad ca) s.heap := hP
  have hl := lv_entry ([.ref (ad 0), .int p1, .int p2, .int p3]) (n := 9) (Nat.le_of_ble_eq_true rfl)
  rw [lg_entry_eq]
  generalize (lg_sl ([.ref (ad 0), .int p1, .int p2, .int p3]) ++ List.replicate (9 - (lg_sl ([.ref (ad 0), .int p1, .int p2, .int p3])).length) Slot.unset).toArray = ls at hl ⊢
  have hl : lv_has ls 9 [(0, .ref (ad 0)), (1, .int p1), (2, .int p2), (3, .int p3)] := hl
  refine lv_aload_n hx hb dX12_index_0 rfl (lv_at hl 0 rfl) ?_
  refine lv_iload_n hx hb dX12_index_1 rfl (lv_at hl 2 rfl) ?_
  refine jc_q (va_runV (As := [.int p2]) (rest := []) ⟨hx, hb, hml, hown, hts⟩ (kX12_setVolumeAt_18 l dC dI _ ad ca p2 fl_p2) (cwV 1 hts (jgoodV m_418 m_419 m_420 m_210 m_421) rfl rfl rfl (by decide +kernel) ⟨Nat.le_of_ble_eq_true rfl, Nat.le_of_ble_eq_true rfl⟩) ⟨jw_blind, va_recv hK hP (ci := 12) (q0 := 0) rfl rfl, fun U hU hW => ⟨rfl, jw_of hU hW hP hK hD⟩⟩ rfl rfl hl.1 rfl (lv_room (Nat.le_of_ble_eq_true rfl)) dX12_index_2 ⟨Nat.le_of_ble_eq_true rfl, Nat.le_of_ble_eq_true rfl⟩) hP hS hA (fun r_1 H locs hw_1 hP hS => ?_)
  have hw_1 : none = r_1 := Eq.symm hw_1
  subst hw_1
  refine jt_q Value.null rfl ?_
  refine lv_astoreN (lv' := [(4, .null), (0, .ref (ad 0)), (1, .int p1), (2, .int p2), (3, .int p3)]) hx hb dX12_index_5 hl (by decide) rfl (fun ls hl => ?_)
  refine lv_aloadN hx hb dX12_index_7 (lv_at hl 0 rfl) ?_
  refine lv_ifnullN (tgt := 16) hx hb dX12_index_9 (by decide) ?_
  refine lv_iconst (v := (-1)) hx hb dX12_index_16 (by decide) ?_
  exact W.iret (v := (-1)) hx hb hr (fun t ht hW => ⟨⟨(-1), (), rfl, rfl, trivial⟩, hS.F ht⟩) hS.2.2 dX12_index_17
set_option maxHeartbeats 500000 in
set_option maxRecDepth 100000 in
theorem kX10_add_3 (l : Launch) (dC : Nat → ClassId) (dI : Nat → Nat → Nat) (sz : Nat) (ad : Nat → Nat) (ca : Nat → ClassId) (p1 : Int32) : Met l yX10_add (jk yX10_add cX10_add 2 (some .int)) ({ frames := 0, cells := 0, slots := 0, locals := 0 }) (va_Pc [.ref (ad 70), .int p1] (jw_P (dC, dI) (xW ad ca) (xT ca) sz)) (va_Qi (fun (r : Int32) (_ : Unit) => (r = 1)) (fun _ t => va_P (dC, dI) vwCl ((jS (jS (xW ad ca) 70 (ad 70, .inr (10, [.ref (ad 71), .int 1, .ref (ad 72)]))) 71 (ad 71, .inl ((ca 71), 30, .inl (upd (fun _ => 0) 0 p1))))) t.heap ∧ va_K (dC, dI) vwCl (xT ca) t ∧ va_D (va_A (xW ad ca) sz) ((jS (jS (xW ad ca) 70 (ad 70, .inr (10, [.ref (ad 71), .int 1, .ref (ad 72)]))) 71 (ad 71, .inl ((ca 71), 30, .inl (upd (fun _ => 0) 0 p1)))))) (va_A (xW ad ca) sz)) 0 0 (va_A (xW ad ca) sz) := by
  refine Met.ofW (cc := cX10_add) (maxL := 2) (ret := (some .int)) (by decide) rfl ?_
  intro p e s m args below meth c s₁ B hml hv
  obtain ⟨rfl, hsz, hP, hK, hD0⟩ := hv
  have hx := B.exec
  have hb := B.bytes
  have hr := B.returns
  have hts := atoms_spec (ws := (jk yX10_add cX10_add 2 (some .int))) B.pre
  have hown : s.vm.findClass RX10 = some m.cls := findClass_of_methodNamed B.named
  have hlocks := B.notSynchronized
  subst hsz
  have hD := hD0.self (sz := s.heap.size)
  generalize hAe : (va_A (xW ad ca) s.heap.size) = A at hD ⊢
  have hA : ∀ q : Nat, s.heap.size ≤ q → A q := fun q h => by rw [← hAe]; exact Or.inr h
  have hS : va_S A s.heap s.heap [] := va_S.rf
  have hP : va_P (dC, dI) vwCl (xW ad ca) s.heap := hP
  have hl := lv_entry ([.ref (ad 70), .int p1]) (n := 2) (Nat.le_of_ble_eq_true rfl)
  rw [lg_entry_eq]
  generalize (lg_sl ([.ref (ad 70), .int p1]) ++ List.replicate (2 - (lg_sl ([.ref (ad 70), .int p1])).length) Slot.unset).toArray = ls at hl ⊢
  have hl : lv_has ls 2 [(0, .ref (ad 70)), (1, .int p1)] := hl
  refine lv_aload_n hx hb dX10_add_0 rfl (lv_at hl 0 rfl) ?_
  refine va_get (D := (dC, dI)) (ci := 10) (v := .int 0) (C := RX10) (T := TX10) (N := 3) hx hb hts (jh hin_RX10) hown hK hP 70 rfl rfl 1 (by decide) (hts (.fieldLink RX10 18 "BookOfAll$Thief" "size" "I") (jm m_474)) (fun _ h9 => h9) rfl dX10_add_1 ?_
  refine lv_if_lt (tgt := 16) hx hb dX10_add_4 (by decide) (fun z => absurd z (by decide)) (fun _ => ?_)
  refine lv_aload_n hx hb dX10_add_7 rfl (lv_at hl 0 rfl) ?_
  refine va_get (D := (dC, dI)) (ci := 10) (v := .int 0) (C := RX10) (T := TX10) (N := 3) hx hb hts (jh hin_RX10) hown hK hP 70 rfl rfl 1 (by decide) (hts (.fieldLink RX10 18 "BookOfAll$Thief" "size" "I") (jm m_474)) (fun _ h9 => h9) rfl dX10_add_8 ?_
  refine lv_bipush (v := 30) hx hb dX10_add_11 (by decide) ?_
  refine lv_icmp_lt (tgt := 18) hx hb dX10_add_13 (by decide) (fun _ => ?_) (fun z => absurd (by decide) z)
  refine lv_aload_n hx hb dX10_add_18 rfl (lv_at hl 0 rfl) ?_
  refine va_get (D := (dC, dI)) (ci := 10) (v := .ref (ad 71)) (C := RX10) (T := TX10) (N := 3) hx hb hts (jh hin_RX10) hown hK hP 70 rfl rfl 0 (by decide) (hts (.fieldLink RX10 11 "BookOfAll$Thief" "row" "[I") (jm m_475)) (fun _ h9 => h9) rfl dX10_add_19 ?_
  refine lv_aload_n hx hb dX10_add_22 rfl (lv_at hl 0 rfl) ?_
  refine va_get (D := (dC, dI)) (ci := 10) (v := .int 0) (C := RX10) (T := TX10) (N := 3) hx hb hts (jh hin_RX10) hown hK hP 70 rfl rfl 1 (by decide) (hts (.fieldLink RX10 18 "BookOfAll$Thief" "size" "I") (jm m_474)) (fun _ h9 => h9) rfl dX10_add_23 ?_
  refine lv_iload_n hx hb dX10_add_26 rfl (lv_at hl 1 rfl) ?_
  refine va_iast hx hb hK hP hD hS 71 57 rfl rfl (vp_in_nI (n := 0) (by decide) (by decide)) dX10_add_27 (fun H locs hP hD hS => ?_)
  refine lv_aload_n hx hb dX10_add_28 rfl (lv_at hl 0 rfl) ?_
  refine lv_dup hx hb dX10_add_29 rfl ?_
  refine va_get (D := (dC, dI)) (ci := 10) (v := .int 0) (C := RX10) (T := TX10) (N := 3) hx hb hts (jh hin_RX10) hown hK hP 70 rfl rfl 1 (by decide) (hts (.fieldLink RX10 18 "BookOfAll$Thief" "size" "I") (jm m_474)) (fun _ h9 => h9) rfl dX10_add_30 ?_
  refine lv_iconst (v := 1) hx hb dX10_add_33 (by decide) ?_
  refine lv_iadd hx hb dX10_add_34 ?_
  refine jt_i 1 (by decide) ?_
  refine va_put (D := (dC, dI)) (ci := 10) (v := .int 1) (ty := .int) (C := RX10) (T := TX10) (N := 3) hx hb hts (jh hin_RX10) tyX10 tyX10_ok nmX10 hown hK hP hD hS 70 rfl rfl 1 (by decide) (hts (.fieldLink RX10 18 "BookOfAll$Thief" "size" "I") (jm m_474)) (fun _ h9 => h9) rfl (by decide +kernel) rfl rfl (Nat.le_of_ble_eq_true rfl) dX10_add_35 (fun H locs hP hD hS => ?_)
  refine lv_aload_n hx hb dX10_add_38 rfl (lv_at hl 0 rfl) ?_
  refine va_get (D := (dC, dI)) (ci := 10) (v := .int 1) (C := RX10) (T := TX10) (N := 3) hx hb hts (jh hin_RX10) hown hK hP 70 rfl rfl 1 (by decide) (hts (.fieldLink RX10 18 "BookOfAll$Thief" "size" "I") (jm m_474)) (fun _ h9 => h9) rfl dX10_add_39 ?_
  exact W.iret (v := 1) hx hb hr (fun t ht hW => ⟨⟨1, (), rfl, rfl, by rw [ht]; exact hP, va_K.moved hW.alike hK, hD⟩, hS.F ht⟩) hS.2.2 dX10_add_42
