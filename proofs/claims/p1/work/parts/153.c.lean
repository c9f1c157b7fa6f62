set_option maxHeartbeats 500000 in
set_option maxRecDepth 100000 in
theorem tX13_owed (l : Launch) (dC : Nat → ClassId) (dI : Nat → Nat → Nat) (sz : Nat) (ad : Nat → Nat) (ca : Nat → ClassId) (p1 : Int32) (p2 : Int32) : Met l yX13_owed (jk yX13_owed cX13_owed 4 (some .int)) ({ frames := 1, cells := 0, slots := 0, locals := 22 }) (va_Pc [.ref (ad 0), .int p1, .int p2] (jw_P (dC, dI) (mW ad ca) (mT ca) sz)) (va_Qi (fun (r : Int32) (_ : Unit) => (r = (-1))) (fun _ _ => True) (va_A [] sz)) 0 0 (va_A [] sz) := by
  refine Met.ofW (cc := cX13_owed) (maxL := 4) (ret := (some .int)) (by decide) rfl ?_
  intro p e s m args below meth c s₁ B hml hv
  obtain ⟨rfl, hsz, hP, hK, hD0⟩ := hv
  have hx := B.exec
  have hb := B.bytes
  have hr := B.returns
  have hts := atoms_spec (ws := (jk yX13_owed cX13_owed 4 (some .int))) B.pre
  have hown : s.vm.findClass RX13 = some m.cls := findClass_of_methodNamed B.named
  have hlocks := B.notSynchronized
  subst hsz
  have hD := hD0
  generalize hAe : (va_A [] s.heap.size) = A
  have hA : ∀ q : Nat, s.heap.size ≤ q → A q := fun q h => by rw [← hAe]; exact Or.inr h
  have hS : va_S A s.heap s.heap [] := va_S.rf
  have hP : va_P (dC, dI) vwCl (mW ad ca) s.heap := hP
  have hl := lv_entry ([.ref (ad 0), .int p1, .int p2]) (n := 4) (Nat.le_of_ble_eq_true rfl)
  rw [lg_entry_eq]
  generalize (lg_sl ([.ref (ad 0), .int p1, .int p2]) ++ List.replicate (4 - (lg_sl ([.ref (ad 0), .int p1, .int p2])).length) Slot.unset).toArray = ls at hl ⊢
  have hl : lv_has ls 4 [(0, .ref (ad 0)), (1, .int p1), (2, .int p2)] := hl
  refine lv_iload_n hx hb dX13_owed_0 rfl (lv_at hl 1 rfl) ?_
  refine lv_iconst (v := 0) hx hb dX13_owed_1 (by decide) ?_
  refine lv_bipush (v := 9) hx hb dX13_owed_2 (by decide) ?_
  refine jc_i (va_runS (As := [.int p1, .int 0, .int 9]) (rest := []) ⟨hx, hb, hml, hown, hts⟩ (kX13_in_7 l dC dI _ p1) (va_cwS 3 hts (jgoodS m_493 m_494 m_96 m_495) rfl rfl rfl (by decide +kernel) ⟨Nat.le_of_ble_eq_true rfl, Nat.le_of_ble_eq_true rfl⟩) ⟨jw_blind0, fun U hU hW => ⟨rfl, congrArg Array.size hU⟩⟩ rfl rfl hl.1 rfl (lv_room (Nat.le_of_ble_eq_true rfl)) dX13_owed_4 ⟨Nat.le_of_ble_eq_true rfl, Nat.le_of_ble_eq_true rfl⟩) hP hS hA (fun r_1 H locs hw_1 hP hS => ?_)
  rcases (show (p1 < 0 ∧ r_1 = 0) ∨ (¬ (p1 < 0) ∧ 9 < p1 ∧ r_1 = 0) ∨ (¬ (p1 < 0) ∧ ¬ (9 < p1) ∧ r_1 = 1) from hw_1) with ⟨c_2, e_2_0⟩ | ⟨c_3, c_4, e_4_1⟩ | ⟨c_5, c_6, e_6_2⟩
  · have e_2_0 := e_2_0.symm
    subst e_2_0
    refine lv_if_eq (tgt := 45) hx hb dX13_owed_7 (by decide) (fun _ => ?_) (fun z => absurd (by decide) z)
    refine lv_iconst (v := (-1)) hx hb dX13_owed_45 (by decide) ?_
    exact W.iret (v := (-1)) hx hb hr (fun t ht hW => ⟨⟨(-1), (), rfl, rfl, trivial⟩, hS.F ht⟩) hS.2.2 dX13_owed_46
  · have e_4_1 := e_4_1.symm
    subst e_4_1
    refine lv_if_eq (tgt := 45) hx hb dX13_owed_7 (by decide) (fun _ => ?_) (fun z => absurd (by decide) z)
    refine lv_iconst (v := (-1)) hx hb dX13_owed_45 (by decide) ?_
    exact W.iret (v := (-1)) hx hb hr (fun t ht hW => ⟨⟨(-1), (), rfl, rfl, trivial⟩, hS.F ht⟩) hS.2.2 dX13_owed_46
  · have e_6_2 := e_6_2.symm
    subst e_6_2
    refine lv_if_eq (tgt := 45) hx hb dX13_owed_7 (by decide) (fun z => absurd z (by decide)) (fun _ => ?_)
    refine lv_aload_n hx hb dX13_owed_10 rfl (lv_at hl 0 rfl) ?_
    refine va_get (D := (dC, dI)) (ci := 13) (v := .ref (ad 60)) (C := RX13) (T := TX13) (N := 104) hx hb hts (jh hin_RX13) hown hK hP 0 rfl rfl 77 (by decide) (hts (.fieldLink RX13 189 "BookOfAllModel" "subscribedFor" "[I") (jm m_62)) (fun _ h9 => h9) rfl dX13_owed_11 ?_
    refine lv_iload_n hx hb dX13_owed_14 rfl (lv_at hl 1 rfl) ?_
    refine va_iald hx hb hK hP 60 59 rfl rfl (jb_in (jl_nlt c_5) (jl_ngt c_6) (by decide) (by decide)) dX13_owed_15 ?_
    refine jt_i 0 rfl ?_
    refine lv_if_eq (tgt := 45) hx hb dX13_owed_16 (by decide) (fun _ => ?_) (fun z => absurd (by decide) z)
    refine lv_iconst (v := (-1)) hx hb dX13_owed_45 (by decide) ?_
    exact W.iret (v := (-1)) hx hb hr (fun t ht hW => ⟨⟨(-1), (), rfl, rfl, trivial⟩, hS.F ht⟩) hS.2.2 dX13_owed_46
set_option maxHeartbeats 500000 in
set_option maxRecDepth 100000 in
theorem kX13_in_28 (l : Launch) (dC : Nat → ClassId) (dI : Nat → Nat → Nat) (sz : Nat) (p0 : Int32) : Met l yX13_in (jk yX13_in cX13_in 3 (some .boolean)) ({ frames := 0, cells := 0, slots := 0, locals := 0 }) (va_Pc [.int p0, .int 1, .int 400] (fun U => U.heap.size = sz)) (va_Qi (fun (r : Int32) (_ : Unit) => (p0 < 1 ∧ r = 0) ∨ (¬ (p0 < 1) ∧ 400 < p0 ∧ r = 0) ∨ (¬ (p0 < 1) ∧ ¬ (400 < p0) ∧ r = 1)) (fun _ _ => True) (va_A [] sz)) 0 0 (va_A [] sz) := by
  refine Met.ofW (cc := cX13_in) (maxL := 3) (ret := (some .boolean)) (by decide) rfl ?_
  intro p e s m args below meth c s₁ B hml hv
  obtain ⟨rfl, hsz⟩ := hv
  have hx := B.exec
  have hb := B.bytes
  have hr := B.returns
  have hts := atoms_spec (ws := (jk yX13_in cX13_in 3 (some .boolean))) B.pre
  have hown : s.vm.findClass RX13 = some m.cls := findClass_of_methodNamed B.named
  have hlocks := B.notSynchronized
  subst hsz
  have hP : va_P (dC, dI) vwCl [] s.heap := fun k q h => by simp at h
  generalize hAe : (va_A [] s.heap.size) = A
  have hA : ∀ q : Nat, s.heap.size ≤ q → A q := fun q h => by rw [← hAe]; exact Or.inr h
  have hS : va_S A s.heap s.heap [] := va_S.rf
  have hl := lv_entry ([.int p0, .int 1, .int 400]) (n := 3) (Nat.le_of_ble_eq_true rfl)
  rw [lg_entry_eq]
  generalize (lg_sl ([.int p0, .int 1, .int 400]) ++ List.replicate (3 - (lg_sl ([.int p0, .int 1, .int 400])).length) Slot.unset).toArray = ls at hl ⊢
  have hl : lv_has ls 3 [(0, .int p0), (1, .int 1), (2, .int 400)] := hl
  refine lv_iload_n hx hb dX13_in_0 rfl (lv_at hl 0 rfl) ?_
  refine lv_iload_n hx hb dX13_in_1 rfl (lv_at hl 1 rfl) ?_
  refine lv_icmp_lt (tgt := 14) hx hb dX13_in_2 (by decide) (fun c_1 => ?_) (fun c_1 => ?_)
  · refine lv_iconst (v := 0) hx hb dX13_in_14 (by decide) ?_
    exact W.zret (v := 0) (ty := .boolean) hx hb hr rfl (fun t ht hW => ⟨⟨0, (), rfl, (Or.inl ⟨c_1, rfl⟩), trivial⟩, hS.F ht⟩) hS.2.2 dX13_in_15
  · refine lv_iload_n hx hb dX13_in_5 rfl (lv_at hl 0 rfl) ?_
    refine lv_iload_n hx hb dX13_in_6 rfl (lv_at hl 2 rfl) ?_
    refine lv_icmp_gt (tgt := 14) hx hb dX13_in_7 (by decide) (fun c_2 => ?_) (fun c_2 => ?_)
    · refine lv_iconst (v := 0) hx hb dX13_in_14 (by decide) ?_
      exact W.zret (v := 0) (ty := .boolean) hx hb hr rfl (fun t ht hW => ⟨⟨0, (), rfl, (Or.inr (Or.inl ⟨c_1, c_2, rfl⟩)), trivial⟩, hS.F ht⟩) hS.2.2 dX13_in_15
    · refine lv_iconst (v := 1) hx hb dX13_in_10 (by decide) ?_
      refine lv_goto (tgt := 15) hx hb dX13_in_11 (by decide) ?_
      exact W.zret (v := 1) (ty := .boolean) hx hb hr rfl (fun t ht hW => ⟨⟨1, (), rfl, (Or.inr (Or.inr ⟨c_1, c_2, rfl⟩)), trivial⟩, hS.F ht⟩) hS.2.2 dX13_in_15
set_option maxHeartbeats 500000 in
set_option maxRecDepth 100000 in
theorem kX13_bringsTo_2 (l : Launch) (dC : Nat → ClassId) (dI : Nat → Nat → Nat) (sz : Nat) (ad : Nat → Nat) (ca : Nat → ClassId) (p1 : Int32) (p2 : Int32) : Met l yX13_bringsTo (jk yX13_bringsTo cX13_bringsTo 13 (some .int)) ({ frames := 2, cells := 0, slots := 0, locals := 42 }) (va_Pc [.ref (ad 0), .int p1, .int p2] (jw_P (dC, dI) (mW ad ca) (mT ca) sz)) (va_Qi (fun (r : Int32) (_ : Unit) => (p1 < 0 ∧ r = (-1)) ∨ (¬ (p1 < 0) ∧ 5 < p1 ∧ r = (-1)) ∨ (¬ (p1 < 0) ∧ ¬ (5 < p1) ∧ p2 < 1 ∧ r = (-1)) ∨ (¬ (p1 < 0) ∧ ¬ (5 < p1) ∧ ¬ (p2 < 1) ∧ 400 < p2 ∧ r = (-1)) ∨ (¬ (p1 < 0) ∧ ¬ (5 < p1) ∧ ¬ (p2 < 1) ∧ ¬ (400 < p2) ∧ r = 0)) (fun _ t => va_P (dC, dI) vwCl (mW ad ca) t.heap ∧ va_K (dC, dI) vwCl (mT ca) t ∧ va_D (va_A (mW ad ca) sz) (mW ad ca)) (va_A (mW ad ca) sz)) 0 0 (va_A (mW ad ca) sz) := by
  refine Met.ofW (cc := cX13_bringsTo) (maxL := 13) (ret := (some .int)) (by decide) rfl ?_
  intro p e s m args below meth c s₁ B hml hv
  obtain ⟨rfl, hsz, hP, hK, hD0⟩ := hv
  have hx := B.exec
  have hb := B.bytes
  have hr := B.returns
  have hts := atoms_spec (ws := (jk yX13_bringsTo cX13_bringsTo 13 (some .int))) B.pre
  have hown : s.vm.findClass RX13 = some m.cls := findClass_of_methodNamed B.named
  have hlocks := B.notSynchronized
  subst hsz
  have hD := hD0.self (sz := s.heap.size)
  generalize hAe : (va_A (mW ad ca) s.heap.size) = A at hD ⊢
  have hA : ∀ q : Nat, s.heap.size ≤ q → A q := fun q h => by rw [← hAe]; exact Or.inr h
  have hS : va_S A s.heap s.heap [] := va_S.rf
  have hP : va_P (dC, dI) vwCl (mW ad ca) s.heap := hP
  have hl := lv_entry ([.ref (ad 0), .int p1, .int p2]) (n := 13) (Nat.le_of_ble_eq_true rfl)
  rw [lg_entry_eq]
  generalize (lg_sl ([.ref (ad 0), .int p1, .int p2]) ++ List.replicate (13 - (lg_sl ([.ref (ad 0), .int p1, .int p2])).length) Slot.unset).toArray = ls at hl ⊢
  have hl : lv_has ls 13 [(0, .ref (ad 0)), (1, .int p1), (2, .int p2)] := hl
  refine lv_iload_n hx hb dX13_bringsTo_0 rfl (lv_at hl 1 rfl) ?_
  refine jc_i (va_runS (As := [.int p1]) (rest := []) ⟨hx, hb, hml, hown, hts⟩ (kX13_isVolume_1 l dC dI _ p1) (va_cwS 1 hts (jgoodS m_548 m_549 m_96 m_550) rfl rfl rfl (by decide +kernel) ⟨Nat.le_of_ble_eq_true rfl, Nat.le_of_ble_eq_true rfl⟩) ⟨jw_blind0, fun U hU hW => ⟨rfl, congrArg Array.size hU⟩⟩ rfl rfl hl.1 rfl (lv_room (Nat.le_of_ble_eq_true rfl)) dX13_bringsTo_1 ⟨Nat.le_of_ble_eq_true rfl, Nat.le_of_ble_eq_true rfl⟩) hP hS hA (fun r_1 H locs hw_1 hP hS => ?_)
  rcases (show (p1 < 0 ∧ r_1 = 0) ∨ (¬ (p1 < 0) ∧ 5 < p1 ∧ r_1 = 0) ∨ (¬ (p1 < 0) ∧ ¬ (5 < p1) ∧ r_1 = 1) from hw_1) with ⟨c_2, e_2_0⟩ | ⟨c_3, c_4, e_4_1⟩ | ⟨c_5, c_6, e_6_2⟩
  · have e_2_0 := e_2_0.symm
    subst e_2_0
    refine lv_if_eq (tgt := 27) hx hb dX13_bringsTo_4 (by decide) (fun _ => ?_) (fun z => absurd (by decide) z)
    refine lv_iconst (v := (-1)) hx hb dX13_bringsTo_27 (by decide) ?_
    exact W.iret (v := (-1)) hx hb hr (fun t ht hW => ⟨⟨(-1), (), rfl, (Or.inl ⟨c_2, rfl⟩), by rw [ht]; exact hP, va_K.moved hW.alike hK, hD⟩, hS.F ht⟩) hS.2.2 dX13_bringsTo_28
  · have e_4_1 := e_4_1.symm
    subst e_4_1
    refine lv_if_eq (tgt := 27) hx hb dX13_bringsTo_4 (by decide) (fun _ => ?_) (fun z => absurd (by decide) z)
    refine lv_iconst (v := (-1)) hx hb dX13_bringsTo_27 (by decide) ?_
    exact W.iret (v := (-1)) hx hb hr (fun t ht hW => ⟨⟨(-1), (), rfl, (Or.inr (Or.inl ⟨c_3, c_4, rfl⟩)), by rw [ht]; exact hP, va_K.moved hW.alike hK, hD⟩, hS.F ht⟩) hS.2.2 dX13_bringsTo_28
  · have e_6_2 := e_6_2.symm
    subst e_6_2
    refine lv_if_eq (tgt := 27) hx hb dX13_bringsTo_4 (by decide) (fun z => absurd z (by decide)) (fun _ => ?_)
    refine lv_aload_n hx hb dX13_bringsTo_7 rfl (lv_at hl 0 rfl) ?_
    refine va_get (D := (dC, dI)) (ci := 13) (v := .ref (ad 20)) (C := RX13) (T := TX13) (N := 104) hx hb hts (jh hin_RX13) hown hK hP 0 rfl rfl 32 (by decide) (hts (.fieldLink RX13 68 "BookOfAllModel" "isSet" "[Z") (jm m_22)) (fun _ h9 => h9) rfl dX13_bringsTo_8 ?_
    refine lv_iload_n hx hb dX13_bringsTo_11 rfl (lv_at hl 1 rfl) ?_
    refine va_zald hx hb hK hP 20 19 rfl rfl (jb_in (jl_nlt c_5) (jl_ngt c_6) (by decide) (by decide)) dX13_bringsTo_12 ?_
    refine jt_i 0 rfl ?_
    refine lv_if_ne (tgt := 27) hx hb dX13_bringsTo_13 (by decide) (fun z => absurd (by decide) z) (fun _ => ?_)
    refine lv_iload_n hx hb dX13_bringsTo_16 rfl (lv_at hl 2 rfl) ?_
    refine lv_iconst (v := 1) hx hb dX13_bringsTo_17 (by decide) ?_
    refine lv_sipush (v := 400) hx hb dX13_bringsTo_18 (by decide) ?_
    refine jc_i (va_runS (As := [.int p2, .int 1, .int 400]) (rest := []) ⟨hx, hb, hml, hown, hts⟩ (kX13_in_28 l dC dI _ p2) (va_cwS 3 hts (jgoodS m_493 m_494 m_96 m_495) rfl rfl rfl (by decide +kernel) ⟨Nat.le_of_ble_eq_true rfl, Nat.le_of_ble_eq_true rfl⟩) ⟨jw_blind0, fun U hU hW => ⟨rfl, congrArg Array.size hU⟩⟩ rfl rfl hl.1 rfl (lv_room (Nat.le_of_ble_eq_true rfl)) dX13_bringsTo_21 ⟨Nat.le_of_ble_eq_true rfl, Nat.le_of_ble_eq_true rfl⟩) hP hS hA (fun r_7 H locs hw_7 hP hS => ?_)
    rcases (show (p2 < 1 ∧ r_7 = 0) ∨ (¬ (p2 < 1) ∧ 400 < p2 ∧ r_7 = 0) ∨ (¬ (p2 < 1) ∧ ¬ (400 < p2) ∧ r_7 = 1) from hw_7) with ⟨c_8, e_8_0⟩ | ⟨c_9, c_10, e_10_1⟩ | ⟨c_11, c_12, e_12_2⟩
    · have e_8_0 := e_8_0.symm
      subst e_8_0
      refine lv_if_ne (tgt := 29) hx hb dX13_bringsTo_24 (by decide) (fun z => absurd (by decide) z) (fun _ => ?_)
      refine lv_iconst (v := (-1)) hx hb dX13_bringsTo_27 (by decide) ?_
      exact W.iret (v := (-1)) hx hb hr (fun t ht hW => ⟨⟨(-1), (), rfl, (Or.inr (Or.inr (Or.inl ⟨c_5, c_6, c_8, rfl⟩))), by rw [ht]; exact hP, va_K.moved hW.alike hK, hD⟩, hS.F ht⟩) hS.2.2 dX13_bringsTo_28
    · have e_10_1 := e_10_1.symm
      subst e_10_1
      refine lv_if_ne (tgt := 29) hx hb dX13_bringsTo_24 (by decide) (fun z => absurd (by decide) z) (fun _ => ?_)
      refine lv_iconst (v := (-1)) hx hb dX13_bringsTo_27 (by decide) ?_
      exact W.iret (v := (-1)) hx hb hr (fun t ht hW => ⟨⟨(-1), (), rfl, (Or.inr (Or.inr (Or.inr (Or.inl ⟨c_5, c_6, c_9, c_10, rfl⟩)))), by rw [ht]; exact hP, va_K.moved hW.alike hK, hD⟩, hS.F ht⟩) hS.2.2 dX13_bringsTo_28
    · have e_12_2 := e_12_2.symm
      subst e_12_2
      refine lv_if_ne (tgt := 29) hx hb dX13_bringsTo_24 (by decide) (fun _ => ?_) (fun z => absurd z (by decide))
      refine lv_aload_n hx hb dX13_bringsTo_29 rfl (lv_at hl 0 rfl) ?_
      refine lv_iload_n hx hb dX13_bringsTo_30 rfl (lv_at hl 1 rfl) ?_
      refine jc_i (va_runV (As := [.int p1]) (rest := []) ⟨hx, hb, hml, hown, hts⟩ (kX13_orders_4 l dC dI _ ad ca p1 (jl_nlt c_5) (jl_ngt c_6)) (cwV 1 hts (jgoodV m_551 m_552 m_553 m_96 m_554) rfl rfl rfl (by decide +kernel) ⟨Nat.le_of_ble_eq_true rfl, Nat.le_of_ble_eq_true rfl⟩) ⟨jw_blind, va_recv hK hP (ci := 13) (q0 := 0) rfl rfl, fun U hU hW => ⟨rfl, jw_of hU hW hP hK hD⟩⟩ rfl rfl hl.1 rfl (lv_room (Nat.le_of_ble_eq_true rfl)) dX13_bringsTo_31 ⟨Nat.le_of_ble_eq_true rfl, Nat.le_of_ble_eq_true rfl⟩) hP hS hA (fun r_13 H locs hw_13 hP hS => ?_)
      have hw_13 : 0 = r_13 := Eq.symm hw_13
      subst hw_13
      refine lv_istore_n (lv' := [(3, .int 0), (0, .ref (ad 0)), (1, .int p1), (2, .int p2)]) hx hb dX13_bringsTo_34 rfl hl (by decide) rfl (fun ls hl => ?_)
      refine lv_iconst (v := 0) hx hb dX13_bringsTo_35 (by decide) ?_
      refine lv_istore (lv' := [(4, .int 0), (3, .int 0), (0, .ref (ad 0)), (1, .int p1), (2, .int p2)]) hx hb dX13_bringsTo_36 hl (by decide) rfl (fun ls hl => ?_)
      refine lv_iconst (v := 0) hx hb dX13_bringsTo_38 (by decide) ?_
      refine lv_istore (lv' := [(5, .int 0), (4, .int 0), (3, .int 0), (0, .ref (ad 0)), (1, .int p1), (2, .int p2)]) hx hb dX13_bringsTo_39 hl (by decide) rfl (fun ls hl => ?_)
      refine lv_iconst (v := 0) hx hb dX13_bringsTo_41 (by decide) ?_
      refine lv_istore (lv' := [(6, .int 0), (5, .int 0), (4, .int 0), (3, .int 0), (0, .ref (ad 0)), (1, .int p1), (2, .int p2)]) hx hb dX13_bringsTo_42 hl (by decide) rfl (fun ls hl => ?_)
      refine lv_aload_n hx hb dX13_bringsTo_44 rfl (lv_at hl 4 rfl) ?_
      refine lv_iconst (v := 0) hx hb dX13_bringsTo_45 (by decide) ?_
      refine va_put (D := (dC, dI)) (ci := 13) (v := .int 0) (ty := .int) (C := RX13) (T := TX13) (N := 104) hx hb hts (jh hin_RX13) tyX13 tyX13_ok nmX13 hown hK hP hD hS 0 rfl rfl 90 (by decide) (hts (.fieldLink RX13 515 "BookOfAllModel" "differs" "I") (jm m_584)) (fun _ h9 => h9) rfl (by decide +kernel) rfl rfl (Nat.le_of_ble_eq_true rfl) dX13_bringsTo_46 (fun H locs hP hD hS => ?_)
      refine lv_iconst (v := 0) hx hb dX13_bringsTo_49 (by decide) ?_
      refine lv_istore (lv' := [(7, .int 0), (6, .int 0), (5, .int 0), (4, .int 0), (3, .int 0), (0, .ref (ad 0)), (1, .int p1), (2, .int p2)]) hx hb dX13_bringsTo_50 hl (by decide) rfl (fun ls hl => ?_)
      refine lv_iload hx hb dX13_bringsTo_52 (lv_at hl 0 rfl) ?_
      refine lv_iload_n hx hb dX13_bringsTo_54 rfl (lv_at hl 4 rfl) ?_
      refine lv_icmp_ge (tgt := 344) hx hb dX13_bringsTo_55 (by decide) (fun _ => ?_) (fun z => absurd (by decide) z)
      refine lv_iconst (v := (-1)) hx hb dX13_bringsTo_344 (by decide) ?_
      refine lv_istore (lv' := [(7, .int (-1)), (6, .int 0), (5, .int 0), (4, .int 0), (3, .int 0), (0, .ref (ad 0)), (1, .int p1), (2, .int p2)]) hx hb dX13_bringsTo_345 hl (by decide) rfl (fun ls hl => ?_)
      refine lv_iconst (v := 0) hx hb dX13_bringsTo_347 (by decide) ?_
      refine lv_istore (lv' := [(8, .int 0), (7, .int (-1)), (6, .int 0), (5, .int 0), (4, .int 0), (3, .int 0), (0, .ref (ad 0)), (1, .int p1), (2, .int p2)]) hx hb dX13_bringsTo_348 hl (by decide) rfl (fun ls hl => ?_)
      refine lv_iload hx hb dX13_bringsTo_350 (lv_at hl 0 rfl) ?_
      refine lv_iload hx hb dX13_bringsTo_352 (lv_at hl 2 rfl) ?_
      refine lv_icmp_gt (tgt := 436) hx hb dX13_bringsTo_354 (by decide) (fun z => absurd z (by decide)) (fun _ => ?_)
      refine lv_iload hx hb dX13_bringsTo_357 (lv_at hl 0 rfl) ?_
      refine lv_iload hx hb dX13_bringsTo_359 (lv_at hl 3 rfl) ?_
      refine lv_icmp_ge (tgt := 367) hx hb dX13_bringsTo_361 (by decide) (fun _ => ?_) (fun z => absurd (by decide) z)
      refine lv_iload hx hb dX13_bringsTo_367 (lv_at hl 0 rfl) ?_
      refine lv_iload hx hb dX13_bringsTo_369 (lv_at hl 4 rfl) ?_
      refine lv_icmp_ge (tgt := 382) hx hb dX13_bringsTo_371 (by decide) (fun _ => ?_) (fun z => absurd (by decide) z)
      refine lv_iload hx hb dX13_bringsTo_382 (lv_at hl 0 rfl) ?_
      refine lv_iload hx hb dX13_bringsTo_384 (lv_at hl 4 rfl) ?_
      refine lv_isub hx hb dX13_bringsTo_386 ?_
      refine jt_i 0 (by decide) ?_
      refine lv_istore (lv' := [(9, .int 0), (8, .int 0), (7, .int (-1)), (6, .int 0), (5, .int 0), (4, .int 0), (3, .int 0), (0, .ref (ad 0)), (1, .int p1), (2, .int p2)]) hx hb dX13_bringsTo_387 hl (by decide) rfl (fun ls hl => ?_)
      refine lv_iload hx hb dX13_bringsTo_389 (lv_at hl 2 rfl) ?_
      refine lv_iconst (v := (-1)) hx hb dX13_bringsTo_391 (by decide) ?_
      refine lv_icmp_eq (tgt := 423) hx hb dX13_bringsTo_392 (by decide) (fun _ => ?_) (fun z => absurd (by decide) z)
      refine lv_iload hx hb dX13_bringsTo_423 (lv_at hl 1 rfl) ?_
      refine lv_istore (lv' := [(7, .int 0), (9, .int 0), (8, .int 0), (6, .int 0), (5, .int 0), (4, .int 0), (3, .int 0), (0, .ref (ad 0)), (1, .int p1), (2, .int p2)]) hx hb dX13_bringsTo_425 hl (by decide) rfl (fun ls hl => ?_)
      refine lv_iload hx hb dX13_bringsTo_427 (lv_at hl 2 rfl) ?_
      refine lv_iload_n hx hb dX13_bringsTo_429 rfl (lv_at hl 9 rfl) ?_
      refine lv_iadd hx hb dX13_bringsTo_430 ?_
      refine jt_i p2 (Int32.zero_add _) ?_
      refine lv_istore (lv' := [(8, .int p2), (7, .int 0), (9, .int 0), (6, .int 0), (5, .int 0), (4, .int 0), (3, .int 0), (0, .ref (ad 0)), (1, .int p1), (2, .int p2)]) hx hb dX13_bringsTo_431 hl (by decide) rfl (fun ls hl => ?_)
      refine lv_goto (tgt := 350) hx hb dX13_bringsTo_433 (by decide) ?_
      refine lv_iload hx hb dX13_bringsTo_350 (lv_at hl 0 rfl) ?_
      refine lv_iload hx hb dX13_bringsTo_352 (lv_at hl 3 rfl) ?_
      refine lv_icmp_gt (tgt := 436) hx hb dX13_bringsTo_354 (by decide) (fun _ => ?_) (fun z => absurd (jb_gt (jl_nlt c_11) (by decide)) z)
      refine lv_iload hx hb dX13_bringsTo_436 (lv_at hl 1 rfl) ?_
      refine lv_iconst (v := (-1)) hx hb dX13_bringsTo_438 (by decide) ?_
      refine lv_icmp_ne (tgt := 444) hx hb dX13_bringsTo_439 (by decide) (fun _ => ?_) (fun z => absurd z (by decide))
      refine lv_iload hx hb dX13_bringsTo_444 (lv_at hl 1 rfl) ?_
      refine lv_iload hx hb dX13_bringsTo_446 (lv_at hl 5 rfl) ?_
      refine lv_isub hx hb dX13_bringsTo_448 ?_
      refine jt_i 0 (by decide) ?_
      refine lv_istore (lv' := [(8, .int 0), (7, .int 0), (9, .int 0), (6, .int 0), (5, .int 0), (4, .int 0), (3, .int 0), (0, .ref (ad 0)), (1, .int p1), (2, .int p2)]) hx hb dX13_bringsTo_449 hl (by decide) rfl (fun ls hl => ?_)
      refine lv_iconst (v := 0) hx hb dX13_bringsTo_451 (by decide) ?_
      refine lv_istore (lv' := [(9, .int 0), (8, .int 0), (7, .int 0), (6, .int 0), (5, .int 0), (4, .int 0), (3, .int 0), (0, .ref (ad 0)), (1, .int p1), (2, .int p2)]) hx hb dX13_bringsTo_452 hl (by decide) rfl (fun ls hl => ?_)
      refine lv_iload hx hb dX13_bringsTo_454 (lv_at hl 0 rfl) ?_
      refine lv_iload_n hx hb dX13_bringsTo_456 rfl (lv_at hl 6 rfl) ?_
      refine lv_icmp_ge (tgt := 654) hx hb dX13_bringsTo_457 (by decide) (fun _ => ?_) (fun z => absurd (by decide) z)
      refine lv_iload_n hx hb dX13_bringsTo_654 rfl (lv_at hl 6 rfl) ?_
      exact W.iret (v := 0) hx hb hr (fun t ht hW => ⟨⟨0, (), rfl, (Or.inr (Or.inr (Or.inr (Or.inr ⟨c_5, c_6, c_11, c_12, rfl⟩)))), by rw [ht]; exact hP, va_K.moved hW.alike hK, hD⟩, hS.F ht⟩) hS.2.2 dX13_bringsTo_655
theorem s_tX13_lengths_0 {p1 p2 : Int32} (c_2 : p1 < 0) : (-1) = sp_lengths p1 p2 := by
  unfold sp_lengths
  have g0 : p1.toInt < 0 := ji_lt.mp c_2
  split <;> first | rfl | (exfalso; omega)
theorem s_tX13_lengths_1 {p1 p2 : Int32} (c_3 : ¬ (p1 < 0)) (c_4 : 5 < p1) : (-1) = sp_lengths p1 p2 := by
  unfold sp_lengths
  have g0 : ¬ (p1.toInt < 0) := fun z => c_3 (ji_lt.mpr z)
  have g1 : 5 < p1.toInt := ji_lt.mp c_4
  split <;> first | rfl | (exfalso; omega)
theorem s_tX13_lengths_2 {p1 p2 : Int32} (c_5 : ¬ (p1 < 0)) (c_6 : ¬ (5 < p1)) (c_7 : p2 < 1) : (-1) = sp_lengths p1 p2 := by
  unfold sp_lengths
  have g0 : ¬ (p1.toInt < 0) := fun z => c_5 (ji_lt.mpr z)
  have g1 : ¬ (5 < p1.toInt) := fun z => c_6 (ji_lt.mpr z)
  have g2 : p2.toInt < 1 := ji_lt.mp c_7
  split <;> first | rfl | (exfalso; omega)
theorem s_tX13_lengths_3 {p1 p2 : Int32} (c_8 : ¬ (p1 < 0)) (c_9 : ¬ (5 < p1)) (c_10 : ¬ (p2 < 1)) (c_11 : 400 < p2) : (-1) = sp_lengths p1 p2 := by
  unfold sp_lengths
  have g0 : ¬ (p1.toInt < 0) := fun z => c_8 (ji_lt.mpr z)
  have g1 : ¬ (5 < p1.toInt) := fun z => c_9 (ji_lt.mpr z)
  have g2 : ¬ (p2.toInt < 1) := fun z => c_10 (ji_lt.mpr z)
  have g3 : 400 < p2.toInt := ji_lt.mp c_11
  split <;> first | rfl | (exfalso; omega)
theorem s_tX13_lengths_4 {p1 p2 : Int32} (c_12 : ¬ (p1 < 0)) (c_13 : ¬ (5 < p1)) (c_14 : ¬ (p2 < 1)) (c_15 : ¬ (400 < p2)) : 0 = sp_lengths p1 p2 := by
  unfold sp_lengths
  have g0 : ¬ (p1.toInt < 0) := fun z => c_12 (ji_lt.mpr z)
  have g1 : ¬ (5 < p1.toInt) := fun z => c_13 (ji_lt.mpr z)
  have g2 : ¬ (p2.toInt < 1) := fun z => c_14 (ji_lt.mpr z)
  have g3 : ¬ (400 < p2.toInt) := fun z => c_15 (ji_lt.mpr z)
  split <;> first | rfl | (exfalso; omega)
set_option maxHeartbeats 500000 in
set_option maxRecDepth 100000 in
theorem tX13_lengths (l : Launch) (dC : Nat → ClassId) (dI : Nat → Nat → Nat) (sz : Nat) (ad : Nat → Nat) (ca : Nat → ClassId) (p1 : Int32) (p2 : Int32) : Met l yX13_lengths (jk yX13_lengths cX13_lengths 3 (some .int)) ({ frames := 3, cells := 0, slots := 0, locals := 74 }) (va_Pc [.ref (ad 0), .int p1, .int p2] (jw_P (dC, dI) (mW ad ca) (mT ca) sz)) (va_Qi (fun (r : Int32) (_ : Unit) => r = sp_lengths p1 p2) (fun _ _ => True) (va_A (mW ad ca) sz)) 0 0 (va_A (mW ad ca) sz) := by
  refine Met.ofW (cc := cX13_lengths) (maxL := 3) (ret := (some .int)) (by decide) rfl ?_
  intro p e s m args below meth c s₁ B hml hv
  obtain ⟨rfl, hsz, hP, hK, hD0⟩ := hv
  have hx := B.exec
  have hb := B.bytes
  have hr := B.returns
  have hts := atoms_spec (ws := (jk yX13_lengths cX13_lengths 3 (some .int))) B.pre
  have hown : s.vm.findClass RX13 = some m.cls := findClass_of_methodNamed B.named
  have hlocks := B.notSynchronized
  subst hsz
  have hD := hD0.self (sz := s.heap.size)
  generalize hAe : (va_A (mW ad ca) s.heap.size) = A at hD ⊢
  have hA : ∀ q : Nat, s.heap.size ≤ q → A q := fun q h => by rw [← hAe]; exact Or.inr h
  have hS : va_S A s.heap s.heap [] := va_S.rf
  have hP : va_P (dC, dI) vwCl (mW ad ca) s.heap := hP
  have hl := lv_entry ([.ref (ad 0), .int p1, .int p2]) (n := 3) (Nat.le_of_ble_eq_true rfl)
  rw [lg_entry_eq]
  generalize (lg_sl ([.ref (ad 0), .int p1, .int p2]) ++ List.replicate (3 - (lg_sl ([.ref (ad 0), .int p1, .int p2])).length) Slot.unset).toArray = ls at hl ⊢
  have hl : lv_has ls 3 [(0, .ref (ad 0)), (1, .int p1), (2, .int p2)] := hl
  refine lv_aload_n hx hb dX13_lengths_0 rfl (lv_at hl 0 rfl) ?_
  refine lv_iload_n hx hb dX13_lengths_1 rfl (lv_at hl 1 rfl) ?_
  refine lv_iload_n hx hb dX13_lengths_2 rfl (lv_at hl 2 rfl) ?_
  refine jcw_i (va_runV (As := [.int p1, .int p2]) (rest := []) ⟨hx, hb, hml, hown, hts⟩ (kX13_bringsTo_2 l dC dI _ ad ca p1 p2) (cwV 2 hts (jgoodV m_585 m_586 m_587 m_96 m_588) rfl rfl rfl (by decide +kernel) ⟨Nat.le_of_ble_eq_true rfl, Nat.le_of_ble_eq_true rfl⟩) ⟨jw_blind, va_recv hK hP (ci := 13) (q0 := 0) rfl rfl, fun U hU hW => ⟨rfl, jw_of hU hW hP hK hD⟩⟩ rfl rfl hl.1 rfl (lv_room (Nat.le_of_ble_eq_true rfl)) dX13_lengths_3 ⟨Nat.le_of_ble_eq_true rfl, Nat.le_of_ble_eq_true rfl⟩) hD hS hA (fun r_1 H locs hw_1 hP hK hD hS => ?_)
  rcases (show (p1 < 0 ∧ r_1 = (-1)) ∨ (¬ (p1 < 0) ∧ 5 < p1 ∧ r_1 = (-1)) ∨ (¬ (p1 < 0) ∧ ¬ (5 < p1) ∧ p2 < 1 ∧ r_1 = (-1)) ∨ (¬ (p1 < 0) ∧ ¬ (5 < p1) ∧ ¬ (p2 < 1) ∧ 400 < p2 ∧ r_1 = (-1)) ∨ (¬ (p1 < 0) ∧ ¬ (5 < p1) ∧ ¬ (p2 < 1) ∧ ¬ (400 < p2) ∧ r_1 = 0) from hw_1) with ⟨c_2, e_2_0⟩ | ⟨c_3, c_4, e_4_1⟩ | ⟨c_5, c_6, c_7, e_7_2⟩ | ⟨c_8, c_9, c_10, c_11, e_11_3⟩ | ⟨c_12, c_13, c_14, c_15, e_15_4⟩
  · have e_2_0 := e_2_0.symm
    subst e_2_0
    refine lv_iconst (v := (-1)) hx hb dX13_lengths_6 (by decide) ?_
    refine lv_icmp_ne (tgt := 14) hx hb dX13_lengths_7 (by decide) (fun z => absurd (by decide) z) (fun _ => ?_)
    refine lv_iconst (v := (-1)) hx hb dX13_lengths_10 (by decide) ?_
    refine lv_goto (tgt := 18) hx hb dX13_lengths_11 (by decide) ?_
    exact W.iret (v := (-1)) hx hb hr (fun t ht hW => ⟨⟨(-1), (), rfl, (s_tX13_lengths_0 (p1 := p1) (p2 := p2) c_2), trivial⟩, hS.F ht⟩) hS.2.2 dX13_lengths_18
  · have e_4_1 := e_4_1.symm
    subst e_4_1
    refine lv_iconst (v := (-1)) hx hb dX13_lengths_6 (by decide) ?_
    refine lv_icmp_ne (tgt := 14) hx hb dX13_lengths_7 (by decide) (fun z => absurd (by decide) z) (fun _ => ?_)
    refine lv_iconst (v := (-1)) hx hb dX13_lengths_10 (by decide) ?_
    refine lv_goto (tgt := 18) hx hb dX13_lengths_11 (by decide) ?_
    exact W.iret (v := (-1)) hx hb hr (fun t ht hW => ⟨⟨(-1), (), rfl, (s_tX13_lengths_1 (p1 := p1) (p2 := p2) c_3 c_4), trivial⟩, hS.F ht⟩) hS.2.2 dX13_lengths_18
  · have e_7_2 := e_7_2.symm
    subst e_7_2
    refine lv_iconst (v := (-1)) hx hb dX13_lengths_6 (by decide) ?_
    refine lv_icmp_ne (tgt := 14) hx hb dX13_lengths_7 (by decide) (fun z => absurd (by decide) z) (fun _ => ?_)
    refine lv_iconst (v := (-1)) hx hb dX13_lengths_10 (by decide) ?_
    refine lv_goto (tgt := 18) hx hb dX13_lengths_11 (by decide) ?_
    exact W.iret (v := (-1)) hx hb hr (fun t ht hW => ⟨⟨(-1), (), rfl, (s_tX13_lengths_2 (p1 := p1) (p2 := p2) c_5 c_6 c_7), trivial⟩, hS.F ht⟩) hS.2.2 dX13_lengths_18
  · have e_11_3 := e_11_3.symm
    subst e_11_3
    refine lv_iconst (v := (-1)) hx hb dX13_lengths_6 (by decide) ?_
    refine lv_icmp_ne (tgt := 14) hx hb dX13_lengths_7 (by decide) (fun z => absurd (by decide) z) (fun _ => ?_)
    refine lv_iconst (v := (-1)) hx hb dX13_lengths_10 (by decide) ?_
    refine lv_goto (tgt := 18) hx hb dX13_lengths_11 (by decide) ?_
    exact W.iret (v := (-1)) hx hb hr (fun t ht hW => ⟨⟨(-1), (), rfl, (s_tX13_lengths_3 (p1 := p1) (p2 := p2) c_8 c_9 c_10 c_11), trivial⟩, hS.F ht⟩) hS.2.2 dX13_lengths_18
  · have e_15_4 := e_15_4.symm
    subst e_15_4
    refine lv_iconst (v := (-1)) hx hb dX13_lengths_6 (by decide) ?_
    refine lv_icmp_ne (tgt := 14) hx hb dX13_lengths_7 (by decide) (fun _ => ?_) (fun z => absurd z (by decide))
    refine lv_aload_n hx hb dX13_lengths_14 rfl (lv_at hl 0 rfl) ?_
    refine va_get (D := (dC, dI)) (ci := 13) (v := .int 0) (C := RX13) (T := TX13) (N := 104) hx hb hts (jh hin_RX13) hown hK hP 0 rfl rfl 90 (by decide) (hts (.fieldLink RX13 515 "BookOfAllModel" "differs" "I") (jm m_584)) (fun _ h9 => h9) rfl dX13_lengths_15 ?_
    exact W.iret (v := 0) hx hb hr (fun t ht hW => ⟨⟨0, (), rfl, (s_tX13_lengths_4 (p1 := p1) (p2 := p2) c_12 c_13 c_14 c_15), trivial⟩, hS.F ht⟩) hS.2.2 dX13_lengths_18
set_option maxHeartbeats 500000 in
set_option maxRecDepth 100000 in
theorem tX13_length (l : Launch) (dC : Nat → ClassId) (dI : Nat → Nat → Nat) (sz : Nat) (ad : Nat → Nat) (ca : Nat → ClassId) (p1 : Int32) (p2 : Int32) : Met l yX13_length (jk yX13_length cX13_length 3 (some .int)) ({ frames := 3, cells := 0, slots := 0, locals := 64 }) (va_Pc [.ref (ad 0), .int p1, .int p2] (jw_P (dC, dI) (mW ad ca) (mT ca) sz)) (va_Qi (fun (r : Int32) (_ : Unit) => (r = (-1))) (fun _ _ => True) (va_A [] sz)) 0 0 (va_A [] sz) := by
  refine Met.ofW (cc := cX13_length) (maxL := 3) (ret := (some .int)) (by decide) rfl ?_
  intro p e s m args below meth c s₁ B hml hv
  obtain ⟨rfl, hsz, hP, hK, hD0⟩ := hv
  have hx := B.exec
  have hb := B.bytes
  have hr := B.returns
  have hts := atoms_spec (ws := (jk yX13_length cX13_length 3 (some .int))) B.pre
  have hown : s.vm.findClass RX13 = some m.cls := findClass_of_methodNamed B.named
  have hlocks := B.notSynchronized
  subst hsz
  have hD := hD0
  generalize hAe : (va_A [] s.heap.size) = A
  have hA : ∀ q : Nat, s.heap.size ≤ q → A q := fun q h => by rw [← hAe]; exact Or.inr h
  have hS : va_S A s.heap s.heap [] := va_S.rf
  have hP : va_P (dC, dI) vwCl (mW ad ca) s.heap := hP
  have hl := lv_entry ([.ref (ad 0), .int p1, .int p2]) (n := 3) (Nat.le_of_ble_eq_true rfl)
  rw [lg_entry_eq]
  generalize (lg_sl ([.ref (ad 0), .int p1, .int p2]) ++ List.replicate (3 - (lg_sl ([.ref (ad 0), .int p1, .int p2])).length) Slot.unset).toArray = ls at hl ⊢
  have hl : lv_has ls 3 [(0, .ref (ad 0)), (1, .int p1), (2, .int p2)] := hl
  refine lv_aload_n hx hb dX13_length_0 rfl (lv_at hl 0 rfl) ?_
  refine lv_iload_n hx hb dX13_length_1 rfl (lv_at hl 1 rfl) ?_
  refine jc_i (va_runV (As := [.int p1]) (rest := []) ⟨hx, hb, hml, hown, hts⟩ (kX13_isArticle_2 l dC dI _ ad ca p1) (cwV 1 hts (jgoodV m_561 m_562 m_563 m_96 m_564) rfl rfl rfl (by decide +kernel) ⟨Nat.le_of_ble_eq_true rfl, Nat.le_of_ble_eq_true rfl⟩) ⟨jw_blind, va_recv hK hP (ci := 13) (q0 := 0) rfl rfl, fun U hU hW => ⟨rfl, jw_of hU hW hP hK hD⟩⟩ rfl rfl hl.1 rfl (lv_room (Nat.le_of_ble_eq_true rfl)) dX13_length_2 ⟨Nat.le_of_ble_eq_true rfl, Nat.le_of_ble_eq_true rfl⟩) hP hS hA (fun r_1 H locs hw_1 hP hS => ?_)
  have hw_1 : 0 = r_1 := Eq.symm hw_1
  subst hw_1
  refine lv_if_eq (tgt := 37) hx hb dX13_length_5 (by decide) (fun _ => ?_) (fun z => absurd (by decide) z)
  refine lv_iconst (v := (-1)) hx hb dX13_length_37 (by decide) ?_
  exact W.iret (v := (-1)) hx hb hr (fun t ht hW => ⟨⟨(-1), (), rfl, rfl, trivial⟩, hS.F ht⟩) hS.2.2 dX13_length_38
set_option maxHeartbeats 500000 in
set_option maxRecDepth 100000 in
theorem kX13_gives_2 (l : Launch) (dC : Nat → ClassId) (dI : Nat → Nat → Nat) (sz : Nat) (ad : Nat → Nat) (ca : Nat → ClassId) (p1 : Int32) (p2 : Int32) (p3 : Int32) : Met l yX13_gives (jk yX13_gives cX13_gives 7 (some .boolean)) ({ frames := 0, cells := 0, slots := 0, locals := 0 }) (va_Pc [.ref (ad 0), .int p1, .int p2, .int p3] (jw_P (dC, dI) (mW ad ca) (mT ca) sz)) (va_Qi (fun (r : Int32) (_ : Unit) => (r = 0)) (fun _ _ => True) (va_A [] sz)) 0 0 (va_A [] sz) := by
  refine Met.ofW (cc := cX13_gives) (maxL := 7) (ret := (some .boolean)) (by decide) rfl ?_
  intro p e s m args below meth c s₁ B hml hv
  obtain ⟨rfl, hsz, hP, hK, hD0⟩ := hv
  have hx := B.exec
  have hb := B.bytes
  have hr := B.returns
  have hts := atoms_spec (ws := (jk yX13_gives cX13_gives 7 (some .boolean))) B.pre
  have hown : s.vm.findClass RX13 = some m.cls := findClass_of_methodNamed B.named
  have hlocks := B.notSynchronized
  subst hsz
  have hD := hD0
  generalize hAe : (va_A [] s.heap.size) = A
  have hA : ∀ q : Nat, s.heap.size ≤ q → A q := fun q h => by rw [← hAe]; exact Or.inr h
  have hS : va_S A s.heap s.heap [] := va_S.rf
  have hP : va_P (dC, dI) vwCl (mW ad ca) s.heap := hP
  have hl := lv_entry ([.ref (ad 0), .int p1, .int p2, .int p3]) (n := 7) (Nat.le_of_ble_eq_true rfl)
  rw [lg_entry_eq]
  generalize (lg_sl ([.ref (ad 0), .int p1, .int p2, .int p3]) ++ List.replicate (7 - (lg_sl ([.ref (ad 0), .int p1, .int p2, .int p3])).length) Slot.unset).toArray = ls at hl ⊢
  have hl : lv_has ls 7 [(0, .ref (ad 0)), (1, .int p1), (2, .int p2), (3, .int p3)] := hl
  refine lv_iload_n hx hb dX13_gives_0 rfl (lv_at hl 1 rfl) ?_
  refine lv_if_le (tgt := 36) hx hb dX13_gives_1 (by decide) (fun c_1 => ?_) (fun c_1 => ?_)
  · refine lv_iconst (v := 0) hx hb dX13_gives_36 (by decide) ?_
    exact W.zret (v := 0) (ty := .boolean) hx hb hr rfl (fun t ht hW => ⟨⟨0, (), rfl, rfl, trivial⟩, hS.F ht⟩) hS.2.2 dX13_gives_37
  · refine lv_iload_n hx hb dX13_gives_4 rfl (lv_at hl 2 rfl) ?_
    refine lv_if_le (tgt := 36) hx hb dX13_gives_5 (by decide) (fun c_2 => ?_) (fun c_2 => ?_)
    · refine lv_iconst (v := 0) hx hb dX13_gives_36 (by decide) ?_
      exact W.zret (v := 0) (ty := .boolean) hx hb hr rfl (fun t ht hW => ⟨⟨0, (), rfl, rfl, trivial⟩, hS.F ht⟩) hS.2.2 dX13_gives_37
    · refine lv_iload_n hx hb dX13_gives_8 rfl (lv_at hl 1 rfl) ?_
      refine lv_ldcw hx hb hown (hts (.constant RX13 524 1073741824) (jm m_589)) dX13_gives_9 ?_
      refine lv_icmp_ge (tgt := 36) hx hb dX13_gives_12 (by decide) (fun c_3 => ?_) (fun c_3 => ?_)
      · refine lv_iconst (v := 0) hx hb dX13_gives_36 (by decide) ?_
        exact W.zret (v := 0) (ty := .boolean) hx hb hr rfl (fun t ht hW => ⟨⟨0, (), rfl, rfl, trivial⟩, hS.F ht⟩) hS.2.2 dX13_gives_37
      · refine lv_iload_n hx hb dX13_gives_15 rfl (lv_at hl 2 rfl) ?_
        refine lv_iconst (v := 1) hx hb dX13_gives_16 (by decide) ?_
        refine lv_aload_n hx hb dX13_gives_17 rfl (lv_at hl 0 rfl) ?_
        refine va_get (D := (dC, dI)) (ci := 13) (v := .int 0) (C := RX13) (T := TX13) (N := 104) hx hb hts (jh hin_RX13) hown hK hP 0 rfl rfl 50 (by decide) (hts (.fieldLink RX13 445 "BookOfAllModel" "hands" "I") (jm m_556)) (fun _ h9 => h9) rfl dX13_gives_18 ?_
        refine lv_ishl hx hb dX13_gives_21 ?_
        refine jt_i 1 (by decide) ?_
        refine lv_icmp_ge (tgt := 36) hx hb dX13_gives_22 (by decide) (fun _ => ?_) (fun z => absurd (jb_ge (jl_nle (d := 1) c_2 (by decide)) (by decide)) z)
        refine lv_iconst (v := 0) hx hb dX13_gives_36 (by decide) ?_
        exact W.zret (v := 0) (ty := .boolean) hx hb hr rfl (fun t ht hW => ⟨⟨0, (), rfl, rfl, trivial⟩, hS.F ht⟩) hS.2.2 dX13_gives_37
set_option maxHeartbeats 500000 in
set_option maxRecDepth 100000 in
theorem tX13_giving (l : Launch) (dC : Nat → ClassId) (dI : Nat → Nat → Nat) (sz : Nat) (ad : Nat → Nat) (ca : Nat → ClassId) (p1 : Int32) (p2 : Int32) (p3 : Int32) : Met l yX13_giving (jk yX13_giving cX13_giving 4 (some .int)) ({ frames := 1, cells := 0, slots := 0, locals := 26 }) (va_Pc [.ref (ad 0), .int p1, .int p2, .int p3] (jw_P (dC, dI) (mW ad ca) (mT ca) sz)) (va_Qi (fun (r : Int32) (_ : Unit) => (r = (-1))) (fun _ _ => True) (va_A [] sz)) 0 0 (va_A [] sz) := by
  refine Met.ofW (cc := cX13_giving) (maxL := 4) (ret := (some .int)) (by decide) rfl ?_
  intro p e s m args below meth c s₁ B hml hv
  obtain ⟨rfl, hsz, hP, hK, hD0⟩ := hv
  have hx := B.exec
  have hb := B.bytes
  have hr := B.returns
  have hts := atoms_spec (ws := (jk yX13_giving cX13_giving 4 (some .int))) B.pre
  have hown : s.vm.findClass RX13 = some m.cls := findClass_of_methodNamed B.named
  have hlocks := B.notSynchronized
  subst hsz
  have hD := hD0
  generalize hAe : (va_A [] s.heap.size) = A
  have hA : ∀ q : Nat, s.heap.size ≤ q → A q := fun q h => by rw [← hAe]; exact Or.inr h
  have hS : va_S A s.heap s.heap [] := va_S.rf
  have hP : va_P (dC, dI) vwCl (mW ad ca) s.heap := hP
  have hl := lv_entry ([.ref (ad 0), .int p1, .int p2, .int p3]) (n := 4) (Nat.le_of_ble_eq_true rfl)
  rw [lg_entry_eq]
  generalize (lg_sl ([.ref (ad 0), .int p1, .int p2, .int p3]) ++ List.replicate (4 - (lg_sl ([.ref (ad 0), .int p1, .int p2, .int p3])).length) Slot.unset).toArray = ls at hl ⊢
  have hl : lv_has ls 4 [(0, .ref (ad 0)), (1, .int p1), (2, .int p2), (3, .int p3)] := hl
  refine lv_aload_n hx hb dX13_giving_0 rfl (lv_at hl 0 rfl) ?_
  refine lv_iload_n hx hb dX13_giving_1 rfl (lv_at hl 1 rfl) ?_
  refine lv_iload_n hx hb dX13_giving_2 rfl (lv_at hl 2 rfl) ?_
  refine lv_iload_n hx hb dX13_giving_3 rfl (lv_at hl 3 rfl) ?_
  refine jc_i (va_runV (As := [.int p1, .int p2, .int p3]) (rest := []) ⟨hx, hb, hml, hown, hts⟩ (kX13_gives_2 l dC dI _ ad ca p1 p2 p3) (cwV 3 hts (jgoodV m_590 m_591 m_592 m_96 m_593) rfl rfl rfl (by decide +kernel) ⟨Nat.le_of_ble_eq_true rfl, Nat.le_of_ble_eq_true rfl⟩) ⟨jw_blind, va_recv hK hP (ci := 13) (q0 := 0) rfl rfl, fun U hU hW => ⟨rfl, jw_of hU hW hP hK hD⟩⟩ rfl rfl hl.1 rfl (lv_room (Nat.le_of_ble_eq_true rfl)) dX13_giving_4 ⟨Nat.le_of_ble_eq_true rfl, Nat.le_of_ble_eq_true rfl⟩) hP hS hA (fun r_1 H locs hw_1 hP hS => ?_)
  have hw_1 : 0 = r_1 := Eq.symm hw_1
  subst hw_1
  refine lv_if_eq (tgt := 17) hx hb dX13_giving_7 (by decide) (fun _ => ?_) (fun z => absurd (by decide) z)
  refine lv_iconst (v := (-1)) hx hb dX13_giving_17 (by decide) ?_
  exact W.iret (v := (-1)) hx hb hr (fun t ht hW => ⟨⟨(-1), (), rfl, rfl, trivial⟩, hS.F ht⟩) hS.2.2 dX13_giving_18
