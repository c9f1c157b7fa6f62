set_option maxHeartbeats 500000 in
set_option maxRecDepth 100000 in
theorem tX13_given (l : Launch) (dC : Nat → ClassId) (dI : Nat → Nat → Nat) (sz : Nat) (ad : Nat → Nat) (ca : Nat → ClassId) (p1 : Int32) (p2 : Int32) (p3 : Int32) (p4 : Int32) : Met l yX13_given (jk yX13_given cX13_given 7 (some .int)) ({ frames := 1, cells := 0, slots := 0, locals := 26 }) (va_Pc [.ref (ad 0), .int p1, .int p2, .int p3, .int p4] (jw_P (dC, dI) (mW ad ca) (mT ca) sz)) (va_Qi (fun (r : Int32) (_ : Unit) => (r = (-1))) (fun _ _ => True) (va_A [] sz)) 0 0 (va_A [] sz) := by
  refine Met.ofW (cc := cX13_given) (maxL := 7) (ret := (some .int)) (by decide) rfl ?_
  intro p e s m args below meth c s₁ B hml hv
  obtain ⟨rfl, hsz, hP, hK, hD0⟩ := hv
  have hx := B.exec
  have hb := B.bytes
  have hr := B.returns
  have hts := atoms_spec (ws := (jk yX13_given cX13_given 7 (some .int))) B.pre
  have hown : s.vm.findClass RX13 = some m.cls := findClass_of_methodNamed B.named
  have hlocks := B.notSynchronized
  subst hsz
  have hD := hD0
  generalize hAe : (va_A [] s.heap.size) = A
  have hA : ∀ q : Nat, s.heap.size ≤ q → A q := fun q h => by rw [← hAe]; exact Or.inr h
  have hS : va_S A s.heap s.heap [] := va_S.rf
  have hP : va_P (dC, dI) vwCl (mW ad ca) s.heap := hP
  have hl := lv_entry ([.ref (ad 0), .int p1, .int p2, .int p3, .int p4]) (n := 7) (Nat.le_of_ble_eq_true rfl)
  rw [lg_entry_eq]
  generalize (lg_sl ([.ref (ad 0), .int p1, .int p2, .int p3, .int p4]) ++ List.replicate (7 - (lg_sl ([.ref (ad 0), .int p1, .int p2, .int p3, .int p4])).length) Slot.unset).toArray = ls at hl ⊢
  have hl : lv_has ls 7 [(0, .ref (ad 0)), (1, .int p1), (2, .int p2), (3, .int p3), (4, .int p4)] := hl
  refine lv_aload_n hx hb dX13_given_0 rfl (lv_at hl 0 rfl) ?_
  refine lv_iload_n hx hb dX13_given_1 rfl (lv_at hl 1 rfl) ?_
  refine lv_iload_n hx hb dX13_given_2 rfl (lv_at hl 2 rfl) ?_
  refine lv_iload_n hx hb dX13_given_3 rfl (lv_at hl 3 rfl) ?_
  refine jc_i (va_runV (As := [.int p1, .int p2, .int p3]) (rest := []) ⟨hx, hb, hml, hown, hts⟩ (kX13_gives_2 l dC dI _ ad ca p1 p2 p3) (cwV 3 hts (jgoodV m_590 m_591 m_592 m_96 m_593) rfl rfl rfl (by decide +kernel) ⟨Nat.le_of_ble_eq_true rfl, Nat.le_of_ble_eq_true rfl⟩) ⟨jw_blind, va_recv hK hP (ci := 13) (q0 := 0) rfl rfl, fun U hU hW => ⟨rfl, jw_of hU hW hP hK hD⟩⟩ rfl rfl hl.1 rfl (lv_room (Nat.le_of_ble_eq_true rfl)) dX13_given_4 ⟨Nat.le_of_ble_eq_true rfl, Nat.le_of_ble_eq_true rfl⟩) hP hS hA (fun r_1 H locs hw_1 hP hS => ?_)
  have hw_1 : 0 = r_1 := Eq.symm hw_1
  subst hw_1
  refine lv_if_ne (tgt := 12) hx hb dX13_given_7 (by decide) (fun z => absurd (by decide) z) (fun _ => ?_)
  refine lv_iconst (v := (-1)) hx hb dX13_given_10 (by decide) ?_
  exact W.iret (v := (-1)) hx hb hr (fun t ht hW => ⟨⟨(-1), (), rfl, rfl, trivial⟩, hS.F ht⟩) hS.2.2 dX13_given_11
set_option maxHeartbeats 500000 in
set_option maxRecDepth 100000 in
theorem tX13_index (l : Launch) (dC : Nat → ClassId) (dI : Nat → Nat → Nat) (sz : Nat) (ad : Nat → Nat) (ca : Nat → ClassId) (p1 : Int32) (p2 : Int32) (p3 : Int32) : Met l yX13_index (jk yX13_index cX13_index 9 (some .int)) ({ frames := 2, cells := 0, slots := 0, locals := 42 }) (va_Pc [.ref (ad 0), .int p1, .int p2, .int p3] (jw_P (dC, dI) (mW ad ca) (mT ca) sz)) (va_Qi (fun (r : Int32) (_ : Unit) => (r = (-1))) (fun _ _ => True) (va_A [] sz)) 0 0 (va_A [] sz) := by
  refine Met.ofW (cc := cX13_index) (maxL := 9) (ret := (some .int)) (by decide) rfl ?_
  intro p e s m args below meth c s₁ B hml hv
  obtain ⟨rfl, hsz, hP, hK, hD0⟩ := hv
  have hx := B.exec
  have hb := B.bytes
  have hr := B.returns
  have hts := atoms_spec (ws := (jk yX13_index cX13_index 9 (some .int))) B.pre
  have hown : s.vm.findClass RX13 = some m.cls := findClass_of_methodNamed B.named
  have hlocks := B.notSynchronized
  subst hsz
  have hD := hD0
  generalize hAe : (va_A [] s.heap.size) = A
  have hA : ∀ q : Nat, s.heap.size ≤ q → A q := fun q h => by rw [← hAe]; exact Or.inr h
  have hS : va_S A s.heap s.heap [] := va_S.rf
  have hP : va_P (dC, dI) vwCl (mW ad ca) s.heap := hP
  have hl := lv_entry ([.ref (ad 0), .int p1, .int p2, .int p3]) (n := 9) (Nat.le_of_ble_eq_true rfl)
  rw [lg_entry_eq]
  generalize (lg_sl ([.ref (ad 0), .int p1, .int p2, .int p3]) ++ List.replicate (9 - (lg_sl ([.ref (ad 0), .int p1, .int p2, .int p3])).length) Slot.unset).toArray = ls at hl ⊢
  have hl : lv_has ls 9 [(0, .ref (ad 0)), (1, .int p1), (2, .int p2), (3, .int p3)] := hl
  refine lv_iload_n hx hb dX13_index_0 rfl (lv_at hl 2 rfl) ?_
  refine jc_i (va_runS (As := [.int p2]) (rest := []) ⟨hx, hb, hml, hown, hts⟩ (kX13_isVolume_1 l dC dI _ p2) (va_cwS 1 hts (jgoodS m_548 m_549 m_96 m_550) rfl rfl rfl (by decide +kernel) ⟨Nat.le_of_ble_eq_true rfl, Nat.le_of_ble_eq_true rfl⟩) ⟨jw_blind0, fun U hU hW => ⟨rfl, congrArg Array.size hU⟩⟩ rfl rfl hl.1 rfl (lv_room (Nat.le_of_ble_eq_true rfl)) dX13_index_1 ⟨Nat.le_of_ble_eq_true rfl, Nat.le_of_ble_eq_true rfl⟩) hP hS hA (fun r_1 H locs hw_1 hP hS => ?_)
  rcases (show (p2 < 0 ∧ r_1 = 0) ∨ (¬ (p2 < 0) ∧ 5 < p2 ∧ r_1 = 0) ∨ (¬ (p2 < 0) ∧ ¬ (5 < p2) ∧ r_1 = 1) from hw_1) with ⟨c_2, e_2_0⟩ | ⟨c_3, c_4, e_4_1⟩ | ⟨c_5, c_6, e_6_2⟩
  · have e_2_0 := e_2_0.symm
    subst e_2_0
    refine lv_if_eq (tgt := 20) hx hb dX13_index_4 (by decide) (fun _ => ?_) (fun z => absurd (by decide) z)
    refine lv_iconst (v := (-1)) hx hb dX13_index_20 (by decide) ?_
    exact W.iret (v := (-1)) hx hb hr (fun t ht hW => ⟨⟨(-1), (), rfl, rfl, trivial⟩, hS.F ht⟩) hS.2.2 dX13_index_21
  · have e_4_1 := e_4_1.symm
    subst e_4_1
    refine lv_if_eq (tgt := 20) hx hb dX13_index_4 (by decide) (fun _ => ?_) (fun z => absurd (by decide) z)
    refine lv_iconst (v := (-1)) hx hb dX13_index_20 (by decide) ?_
    exact W.iret (v := (-1)) hx hb hr (fun t ht hW => ⟨⟨(-1), (), rfl, rfl, trivial⟩, hS.F ht⟩) hS.2.2 dX13_index_21
  · have e_6_2 := e_6_2.symm
    subst e_6_2
    refine lv_if_eq (tgt := 20) hx hb dX13_index_4 (by decide) (fun z => absurd z (by decide)) (fun _ => ?_)
    refine lv_aload_n hx hb dX13_index_7 rfl (lv_at hl 0 rfl) ?_
    refine va_get (D := (dC, dI)) (ci := 13) (v := .ref (ad 20)) (C := RX13) (T := TX13) (N := 104) hx hb hts (jh hin_RX13) hown hK hP 0 rfl rfl 32 (by decide) (hts (.fieldLink RX13 68 "BookOfAllModel" "isSet" "[Z") (jm m_22)) (fun _ h9 => h9) rfl dX13_index_8 ?_
    refine lv_iload_n hx hb dX13_index_11 rfl (lv_at hl 2 rfl) ?_
    refine va_zald hx hb hK hP 20 19 rfl rfl (jb_in (jl_nlt c_5) (jl_ngt c_6) (by decide) (by decide)) dX13_index_12 ?_
    refine jt_i 0 rfl ?_
    refine lv_if_eq (tgt := 20) hx hb dX13_index_13 (by decide) (fun _ => ?_) (fun z => absurd (by decide) z)
    refine lv_iconst (v := (-1)) hx hb dX13_index_20 (by decide) ?_
    exact W.iret (v := (-1)) hx hb hr (fun t ht hW => ⟨⟨(-1), (), rfl, rfl, trivial⟩, hS.F ht⟩) hS.2.2 dX13_index_21
theorem s_tX13_steal_0 {p1 : Int32} (c_2 : p1 < 0) : (-1) = sp_steal p1 := by
  unfold sp_steal
  have g0 : p1.toInt < 0 := ji_lt.mp c_2
  split <;> first | rfl | (exfalso; omega)
theorem s_tX13_steal_1 {p1 : Int32} (c_3 : ¬ (p1 < 0)) (c_4 : 999 < p1) : (-1) = sp_steal p1 := by
  unfold sp_steal
  have g0 : ¬ (p1.toInt < 0) := fun z => c_3 (ji_lt.mpr z)
  have g1 : 999 < p1.toInt := ji_lt.mp c_4
  split <;> first | rfl | (exfalso; omega)
theorem s_tX13_steal_2 {p1 : Int32} (c_5 : ¬ (p1 < 0)) (c_6 : ¬ (999 < p1)) : 1 = sp_steal p1 := by
  unfold sp_steal
  have g0 : ¬ (p1.toInt < 0) := fun z => c_5 (ji_lt.mpr z)
  have g1 : ¬ (999 < p1.toInt) := fun z => c_6 (ji_lt.mpr z)
  split <;> first | rfl | (exfalso; omega)
set_option maxHeartbeats 500000 in
set_option maxRecDepth 100000 in
theorem tX13_steal (l : Launch) (dC : Nat → ClassId) (dI : Nat → Nat → Nat) (sz : Nat) (ad : Nat → Nat) (ca : Nat → ClassId) (p1 : Int32) : Met l yX13_steal (jk yX13_steal cX13_steal 2 (some .int)) ({ frames := 1, cells := 0, slots := 0, locals := 22 }) (va_Pc [.ref (ad 0), .int p1] (jw_P (dC, dI) (mW ad ca) (mT ca) sz)) (va_Qi (fun (r : Int32) (_ : Unit) => r = sp_steal p1) (fun _ _ => True) (va_A (mW ad ca) sz)) 0 0 (va_A (mW ad ca) sz) := by
  refine Met.ofW (cc := cX13_steal) (maxL := 2) (ret := (some .int)) (by decide) rfl ?_
  intro p e s m args below meth c s₁ B hml hv
  obtain ⟨rfl, hsz, hP, hK, hD0⟩ := hv
  have hx := B.exec
  have hb := B.bytes
  have hr := B.returns
  have hts := atoms_spec (ws := (jk yX13_steal cX13_steal 2 (some .int))) B.pre
  have hown : s.vm.findClass RX13 = some m.cls := findClass_of_methodNamed B.named
  have hlocks := B.notSynchronized
  subst hsz
  have hD := hD0.self (sz := s.heap.size)
  generalize hAe : (va_A (mW ad ca) s.heap.size) = A at hD ⊢
  have hA : ∀ q : Nat, s.heap.size ≤ q → A q := fun q h => by rw [← hAe]; exact Or.inr h
  have hS : va_S A s.heap s.heap [] := va_S.rf
  have hP : va_P (dC, dI) vwCl (mW ad ca) s.heap := hP
  have hl := lv_entry ([.ref (ad 0), .int p1]) (n := 2) (Nat.le_of_ble_eq_true rfl)
  rw [lg_entry_eq]
  generalize (lg_sl ([.ref (ad 0), .int p1]) ++ List.replicate (2 - (lg_sl ([.ref (ad 0), .int p1])).length) Slot.unset).toArray = ls at hl ⊢
  have hl : lv_has ls 2 [(0, .ref (ad 0)), (1, .int p1)] := hl
  refine lv_iload_n hx hb dX13_steal_0 rfl (lv_at hl 1 rfl) ?_
  refine lv_iconst (v := 0) hx hb dX13_steal_1 (by decide) ?_
  refine lv_sipush (v := 999) hx hb dX13_steal_2 (by decide) ?_
  refine jc_i (va_runS (As := [.int p1, .int 0, .int 999]) (rest := []) ⟨hx, hb, hml, hown, hts⟩ (kX13_in_24 l dC dI _ p1) (va_cwS 3 hts (jgoodS m_493 m_494 m_96 m_495) rfl rfl rfl (by decide +kernel) ⟨Nat.le_of_ble_eq_true rfl, Nat.le_of_ble_eq_true rfl⟩) ⟨jw_blind0, fun U hU hW => ⟨rfl, congrArg Array.size hU⟩⟩ rfl rfl hl.1 rfl (lv_room (Nat.le_of_ble_eq_true rfl)) dX13_steal_5 ⟨Nat.le_of_ble_eq_true rfl, Nat.le_of_ble_eq_true rfl⟩) hP hS hA (fun r_1 H locs hw_1 hP hS => ?_)
  rcases (show (p1 < 0 ∧ r_1 = 0) ∨ (¬ (p1 < 0) ∧ 999 < p1 ∧ r_1 = 0) ∨ (¬ (p1 < 0) ∧ ¬ (999 < p1) ∧ r_1 = 1) from hw_1) with ⟨c_2, e_2_0⟩ | ⟨c_3, c_4, e_4_1⟩ | ⟨c_5, c_6, e_6_2⟩
  · have e_2_0 := e_2_0.symm
    subst e_2_0
    refine lv_if_eq (tgt := 20) hx hb dX13_steal_8 (by decide) (fun _ => ?_) (fun z => absurd (by decide) z)
    refine lv_iconst (v := (-1)) hx hb dX13_steal_20 (by decide) ?_
    exact W.iret (v := (-1)) hx hb hr (fun t ht hW => ⟨⟨(-1), (), rfl, (s_tX13_steal_0 (p1 := p1) c_2), trivial⟩, hS.F ht⟩) hS.2.2 dX13_steal_21
  · have e_4_1 := e_4_1.symm
    subst e_4_1
    refine lv_if_eq (tgt := 20) hx hb dX13_steal_8 (by decide) (fun _ => ?_) (fun z => absurd (by decide) z)
    refine lv_iconst (v := (-1)) hx hb dX13_steal_20 (by decide) ?_
    exact W.iret (v := (-1)) hx hb hr (fun t ht hW => ⟨⟨(-1), (), rfl, (s_tX13_steal_1 (p1 := p1) c_3 c_4), trivial⟩, hS.F ht⟩) hS.2.2 dX13_steal_21
  · have e_6_2 := e_6_2.symm
    subst e_6_2
    refine lv_if_eq (tgt := 20) hx hb dX13_steal_8 (by decide) (fun z => absurd z (by decide)) (fun _ => ?_)
    refine lv_aload_n hx hb dX13_steal_11 rfl (lv_at hl 0 rfl) ?_
    refine va_get (D := (dC, dI)) (ci := 13) (v := .int 0) (C := RX13) (T := TX13) (N := 104) hx hb hts (jh hin_RX13) hown hK hP 0 rfl rfl 78 (by decide) (hts (.fieldLink RX13 546 "BookOfAllModel" "stolen" "I") (jm m_594)) (fun _ h9 => h9) rfl dX13_steal_12 ?_
    refine lv_bipush (v := 30) hx hb dX13_steal_15 (by decide) ?_
    refine lv_icmp_ne (tgt := 22) hx hb dX13_steal_17 (by decide) (fun _ => ?_) (fun z => absurd z (by decide))
    refine lv_aload_n hx hb dX13_steal_22 rfl (lv_at hl 0 rfl) ?_
    refine va_get (D := (dC, dI)) (ci := 13) (v := .ref (ad 61)) (C := RX13) (T := TX13) (N := 104) hx hb hts (jh hin_RX13) hown hK hP 0 rfl rfl 79 (by decide) (hts (.fieldLink RX13 192 "BookOfAllModel" "stole" "[I") (jm m_63)) (fun _ h9 => h9) rfl dX13_steal_23 ?_
    refine lv_aload_n hx hb dX13_steal_26 rfl (lv_at hl 0 rfl) ?_
    refine va_get (D := (dC, dI)) (ci := 13) (v := .int 0) (C := RX13) (T := TX13) (N := 104) hx hb hts (jh hin_RX13) hown hK hP 0 rfl rfl 78 (by decide) (hts (.fieldLink RX13 546 "BookOfAllModel" "stolen" "I") (jm m_594)) (fun _ h9 => h9) rfl dX13_steal_27 ?_
    refine lv_iload_n hx hb dX13_steal_30 rfl (lv_at hl 1 rfl) ?_
    refine va_iast hx hb hK hP hD hS 61 60 rfl rfl (vp_in_nI (n := 0) (by decide) (by decide)) dX13_steal_31 (fun H locs hP hD hS => ?_)
    refine lv_aload_n hx hb dX13_steal_32 rfl (lv_at hl 0 rfl) ?_
    refine lv_dup hx hb dX13_steal_33 rfl ?_
    refine va_get (D := (dC, dI)) (ci := 13) (v := .int 0) (C := RX13) (T := TX13) (N := 104) hx hb hts (jh hin_RX13) hown hK hP 0 rfl rfl 78 (by decide) (hts (.fieldLink RX13 546 "BookOfAllModel" "stolen" "I") (jm m_594)) (fun _ h9 => h9) rfl dX13_steal_34 ?_
    refine lv_iconst (v := 1) hx hb dX13_steal_37 (by decide) ?_
    refine lv_iadd hx hb dX13_steal_38 ?_
    refine jt_i 1 (by decide) ?_
    refine va_put (D := (dC, dI)) (ci := 13) (v := .int 1) (ty := .int) (C := RX13) (T := TX13) (N := 104) hx hb hts (jh hin_RX13) tyX13 tyX13_ok nmX13 hown hK hP hD hS 0 rfl rfl 78 (by decide) (hts (.fieldLink RX13 546 "BookOfAllModel" "stolen" "I") (jm m_594)) (fun _ h9 => h9) rfl (by decide +kernel) rfl rfl (Nat.le_of_ble_eq_true rfl) dX13_steal_39 (fun H locs hP hD hS => ?_)
    refine lv_aload_n hx hb dX13_steal_42 rfl (lv_at hl 0 rfl) ?_
    refine va_get (D := (dC, dI)) (ci := 13) (v := .int 1) (C := RX13) (T := TX13) (N := 104) hx hb hts (jh hin_RX13) hown hK hP 0 rfl rfl 78 (by decide) (hts (.fieldLink RX13 546 "BookOfAllModel" "stolen" "I") (jm m_594)) (fun _ h9 => h9) rfl dX13_steal_43 ?_
    exact W.iret (v := 1) hx hb hr (fun t ht hW => ⟨⟨1, (), rfl, (s_tX13_steal_2 (p1 := p1) c_5 c_6), trivial⟩, hS.F ht⟩) hS.2.2 dX13_steal_46
set_option maxHeartbeats 500000 in
set_option maxRecDepth 100000 in
theorem tX13_forget (l : Launch) (dC : Nat → ClassId) (dI : Nat → Nat → Nat) (sz : Nat) (ad : Nat → Nat) (ca : Nat → ClassId) : Met l yX13_forget (jk yX13_forget cX13_forget 2 (some .int)) ({ frames := 0, cells := 0, slots := 0, locals := 0 }) (va_Pc [.ref (ad 0)] (jw_P (dC, dI) (mW ad ca) (mT ca) sz)) (va_Qi (fun (r : Int32) (_ : Unit) => (r = 0)) (fun _ _ => True) (va_A (mW ad ca) sz)) 0 0 (va_A (mW ad ca) sz) := by
  refine Met.ofW (cc := cX13_forget) (maxL := 2) (ret := (some .int)) (by decide) rfl ?_
  intro p e s m args below meth c s₁ B hml hv
  obtain ⟨rfl, hsz, hP, hK, hD0⟩ := hv
  have hx := B.exec
  have hb := B.bytes
  have hr := B.returns
  have hts := atoms_spec (ws := (jk yX13_forget cX13_forget 2 (some .int))) B.pre
  have hown : s.vm.findClass RX13 = some m.cls := findClass_of_methodNamed B.named
  have hlocks := B.notSynchronized
  subst hsz
  have hD := hD0.self (sz := s.heap.size)
  generalize hAe : (va_A (mW ad ca) s.heap.size) = A at hD ⊢
  have hA : ∀ q : Nat, s.heap.size ≤ q → A q := fun q h => by rw [← hAe]; exact Or.inr h
  have hS : va_S A s.heap s.heap [] := va_S.rf
  have hP : va_P (dC, dI) vwCl (mW ad ca) s.heap := hP
  have hl := lv_entry ([.ref (ad 0)]) (n := 2) (Nat.le_of_ble_eq_true rfl)
  rw [lg_entry_eq]
  generalize (lg_sl ([.ref (ad 0)]) ++ List.replicate (2 - (lg_sl ([.ref (ad 0)])).length) Slot.unset).toArray = ls at hl ⊢
  have hl : lv_has ls 2 [(0, .ref (ad 0))] := hl
  refine lv_aload_n hx hb dX13_forget_0 rfl (lv_at hl 0 rfl) ?_
  refine va_get (D := (dC, dI)) (ci := 13) (v := .int 0) (C := RX13) (T := TX13) (N := 104) hx hb hts (jh hin_RX13) hown hK hP 0 rfl rfl 78 (by decide) (hts (.fieldLink RX13 546 "BookOfAllModel" "stolen" "I") (jm m_594)) (fun _ h9 => h9) rfl dX13_forget_1 ?_
  refine lv_istore_n (lv' := [(1, .int 0), (0, .ref (ad 0))]) hx hb dX13_forget_4 rfl hl (by decide) rfl (fun ls hl => ?_)
  refine lv_aload_n hx hb dX13_forget_5 rfl (lv_at hl 1 rfl) ?_
  refine lv_iconst (v := 0) hx hb dX13_forget_6 (by decide) ?_
  refine va_put (D := (dC, dI)) (ci := 13) (v := .int 0) (ty := .int) (C := RX13) (T := TX13) (N := 104) hx hb hts (jh hin_RX13) tyX13 tyX13_ok nmX13 hown hK hP hD hS 0 rfl rfl 78 (by decide) (hts (.fieldLink RX13 546 "BookOfAllModel" "stolen" "I") (jm m_594)) (fun _ h9 => h9) rfl (by decide +kernel) rfl rfl (Nat.le_of_ble_eq_true rfl) dX13_forget_7 (fun H locs hP hD hS => ?_)
  refine lv_iload_n hx hb dX13_forget_10 rfl (lv_at hl 0 rfl) ?_
  exact W.iret (v := 0) hx hb hr (fun t ht hW => ⟨⟨0, (), rfl, rfl, trivial⟩, hS.F ht⟩) hS.2.2 dX13_forget_11
set_option maxHeartbeats 500000 in
set_option maxRecDepth 100000 in
theorem tX13_thief (l : Launch) (dC : Nat → ClassId) (dI : Nat → Nat → Nat) (sz : Nat) (ad : Nat → Nat) (ca : Nat → ClassId) (p1 : Int32) (p2 : Int32) : Met l yX13_thief (jk yX13_thief cX13_thief 8 (some .int)) ({ frames := 2, cells := 0, slots := 0, locals := 42 }) (va_Pc [.ref (ad 0), .int p1, .int p2] (jw_P (dC, dI) (mW ad ca) (mT ca) sz)) (va_Qi (fun (r : Int32) (_ : Unit) => (r = (-1))) (fun _ _ => True) (va_A [] sz)) 0 0 (va_A [] sz) := by
  refine Met.ofW (cc := cX13_thief) (maxL := 8) (ret := (some .int)) (by decide) rfl ?_
  intro p e s m args below meth c s₁ B hml hv
  obtain ⟨rfl, hsz, hP, hK, hD0⟩ := hv
  have hx := B.exec
  have hb := B.bytes
  have hr := B.returns
  have hts := atoms_spec (ws := (jk yX13_thief cX13_thief 8 (some .int))) B.pre
  have hown : s.vm.findClass RX13 = some m.cls := findClass_of_methodNamed B.named
  have hlocks := B.notSynchronized
  subst hsz
  have hD := hD0
  generalize hAe : (va_A [] s.heap.size) = A
  have hA : ∀ q : Nat, s.heap.size ≤ q → A q := fun q h => by rw [← hAe]; exact Or.inr h
  have hS : va_S A s.heap s.heap [] := va_S.rf
  have hP : va_P (dC, dI) vwCl (mW ad ca) s.heap := hP
  have hl := lv_entry ([.ref (ad 0), .int p1, .int p2]) (n := 8) (Nat.le_of_ble_eq_true rfl)
  rw [lg_entry_eq]
  generalize (lg_sl ([.ref (ad 0), .int p1, .int p2]) ++ List.replicate (8 - (lg_sl ([.ref (ad 0), .int p1, .int p2])).length) Slot.unset).toArray = ls at hl ⊢
  have hl : lv_has ls 8 [(0, .ref (ad 0)), (1, .int p1), (2, .int p2)] := hl
  refine lv_iload_n hx hb dX13_thief_0 rfl (lv_at hl 1 rfl) ?_
  refine jc_i (va_runS (As := [.int p1]) (rest := []) ⟨hx, hb, hml, hown, hts⟩ (kX13_isVolume_1 l dC dI _ p1) (va_cwS 1 hts (jgoodS m_548 m_549 m_96 m_550) rfl rfl rfl (by decide +kernel) ⟨Nat.le_of_ble_eq_true rfl, Nat.le_of_ble_eq_true rfl⟩) ⟨jw_blind0, fun U hU hW => ⟨rfl, congrArg Array.size hU⟩⟩ rfl rfl hl.1 rfl (lv_room (Nat.le_of_ble_eq_true rfl)) dX13_thief_1 ⟨Nat.le_of_ble_eq_true rfl, Nat.le_of_ble_eq_true rfl⟩) hP hS hA (fun r_1 H locs hw_1 hP hS => ?_)
  rcases (show (p1 < 0 ∧ r_1 = 0) ∨ (¬ (p1 < 0) ∧ 5 < p1 ∧ r_1 = 0) ∨ (¬ (p1 < 0) ∧ ¬ (5 < p1) ∧ r_1 = 1) from hw_1) with ⟨c_2, e_2_0⟩ | ⟨c_3, c_4, e_4_1⟩ | ⟨c_5, c_6, e_6_2⟩
  · have e_2_0 := e_2_0.symm
    subst e_2_0
    refine lv_if_eq (tgt := 25) hx hb dX13_thief_4 (by decide) (fun _ => ?_) (fun z => absurd (by decide) z)
    refine lv_iconst (v := (-1)) hx hb dX13_thief_25 (by decide) ?_
    exact W.iret (v := (-1)) hx hb hr (fun t ht hW => ⟨⟨(-1), (), rfl, rfl, trivial⟩, hS.F ht⟩) hS.2.2 dX13_thief_26
  · have e_4_1 := e_4_1.symm
    subst e_4_1
    refine lv_if_eq (tgt := 25) hx hb dX13_thief_4 (by decide) (fun _ => ?_) (fun z => absurd (by decide) z)
    refine lv_iconst (v := (-1)) hx hb dX13_thief_25 (by decide) ?_
    exact W.iret (v := (-1)) hx hb hr (fun t ht hW => ⟨⟨(-1), (), rfl, rfl, trivial⟩, hS.F ht⟩) hS.2.2 dX13_thief_26
  · have e_6_2 := e_6_2.symm
    subst e_6_2
    refine lv_if_eq (tgt := 25) hx hb dX13_thief_4 (by decide) (fun z => absurd z (by decide)) (fun _ => ?_)
    refine lv_aload_n hx hb dX13_thief_7 rfl (lv_at hl 0 rfl) ?_
    refine va_get (D := (dC, dI)) (ci := 13) (v := .ref (ad 20)) (C := RX13) (T := TX13) (N := 104) hx hb hts (jh hin_RX13) hown hK hP 0 rfl rfl 32 (by decide) (hts (.fieldLink RX13 68 "BookOfAllModel" "isSet" "[Z") (jm m_22)) (fun _ h9 => h9) rfl dX13_thief_8 ?_
    refine lv_iload_n hx hb dX13_thief_11 rfl (lv_at hl 1 rfl) ?_
    refine va_zald hx hb hK hP 20 19 rfl rfl (jb_in (jl_nlt c_5) (jl_ngt c_6) (by decide) (by decide)) dX13_thief_12 ?_
    refine jt_i 0 rfl ?_
    refine lv_if_eq (tgt := 25) hx hb dX13_thief_13 (by decide) (fun _ => ?_) (fun z => absurd (by decide) z)
    refine lv_iconst (v := (-1)) hx hb dX13_thief_25 (by decide) ?_
    exact W.iret (v := (-1)) hx hb hr (fun t ht hW => ⟨⟨(-1), (), rfl, rfl, trivial⟩, hS.F ht⟩) hS.2.2 dX13_thief_26
set_option maxHeartbeats 500000 in
set_option maxRecDepth 100000 in
theorem tX13_is (l : Launch) (dC : Nat → ClassId) (dI : Nat → Nat → Nat) (sz : Nat) (ad : Nat → Nat) (ca : Nat → ClassId) (p1 : Int32) (p2 : Int32) : Met l yX13_is (jk yX13_is cX13_is 5 (some .int)) ({ frames := 2, cells := 0, slots := 0, locals := 43 }) (va_Pc [.ref (ad 0), .int p1, .int p2] (jw_P (dC, dI) (mW ad ca) (mT ca) sz)) (va_Qi (fun (r : Int32) (_ : Unit) => (r = (-1))) (fun _ _ => True) (va_A [] sz)) 0 0 (va_A [] sz) := by
  refine Met.ofW (cc := cX13_is) (maxL := 5) (ret := (some .int)) (by decide) rfl ?_
  intro p e s m args below meth c s₁ B hml hv
  obtain ⟨rfl, hsz, hP, hK, hD0⟩ := hv
  have hx := B.exec
  have hb := B.bytes
  have hr := B.returns
  have hts := atoms_spec (ws := (jk yX13_is cX13_is 5 (some .int))) B.pre
  have hown : s.vm.findClass RX13 = some m.cls := findClass_of_methodNamed B.named
  have hlocks := B.notSynchronized
  subst hsz
  have hD := hD0
  generalize hAe : (va_A [] s.heap.size) = A
  have hA : ∀ q : Nat, s.heap.size ≤ q → A q := fun q h => by rw [← hAe]; exact Or.inr h
  have hS : va_S A s.heap s.heap [] := va_S.rf
  have hP : va_P (dC, dI) vwCl (mW ad ca) s.heap := hP
  have hl := lv_entry ([.ref (ad 0), .int p1, .int p2]) (n := 5) (Nat.le_of_ble_eq_true rfl)
  rw [lg_entry_eq]
  generalize (lg_sl ([.ref (ad 0), .int p1, .int p2]) ++ List.replicate (5 - (lg_sl ([.ref (ad 0), .int p1, .int p2])).length) Slot.unset).toArray = ls at hl ⊢
  have hl : lv_has ls 5 [(0, .ref (ad 0)), (1, .int p1), (2, .int p2)] := hl
  refine lv_aload_n hx hb dX13_is_0 rfl (lv_at hl 0 rfl) ?_
  refine lv_iload_n hx hb dX13_is_1 rfl (lv_at hl 1 rfl) ?_
  refine jc_i (va_runV (As := [.int p1]) (rest := []) ⟨hx, hb, hml, hown, hts⟩ (kX13_isEntry_3 l dC dI _ ad ca p1) (cwV 1 hts (jgoodV m_540 m_541 m_542 m_96 m_543) rfl rfl rfl (by decide +kernel) ⟨Nat.le_of_ble_eq_true rfl, Nat.le_of_ble_eq_true rfl⟩) ⟨jw_blind, va_recv hK hP (ci := 13) (q0 := 0) rfl rfl, fun U hU hW => ⟨rfl, jw_of hU hW hP hK hD⟩⟩ rfl rfl hl.1 rfl (lv_room (Nat.le_of_ble_eq_true rfl)) dX13_is_2 ⟨Nat.le_of_ble_eq_true rfl, Nat.le_of_ble_eq_true rfl⟩) hP hS hA (fun r_1 H locs hw_1 hP hS => ?_)
  have hw_1 : 0 = r_1 := Eq.symm hw_1
  subst hw_1
  refine lv_if_ne (tgt := 10) hx hb dX13_is_5 (by decide) (fun z => absurd (by decide) z) (fun _ => ?_)
  refine lv_iconst (v := (-1)) hx hb dX13_is_8 (by decide) ?_
  exact W.iret (v := (-1)) hx hb hr (fun t ht hW => ⟨⟨(-1), (), rfl, rfl, trivial⟩, hS.F ht⟩) hS.2.2 dX13_is_9
set_option maxHeartbeats 500000 in
set_option maxRecDepth 100000 in
theorem kX13_in_29 (l : Launch) (dC : Nat → ClassId) (dI : Nat → Nat → Nat) (sz : Nat) (p0 : Int32) : Met l yX13_in (jk yX13_in cX13_in 3 (some .boolean)) ({ frames := 0, cells := 0, slots := 0, locals := 0 }) (va_Pc [.int p0, .int 10, .int 9] (fun U => U.heap.size = sz)) (va_Qi (fun (r : Int32) (_ : Unit) => (p0 < 10 ∧ r = 0) ∨ (¬ (p0 < 10) ∧ r = 0)) (fun _ _ => True) (va_A [] sz)) 0 0 (va_A [] sz) := by
  refine Met.ofW (cc := cX13_in) (maxL := 3) (ret := (some .boolean)) (by decide) rfl ?_
  intro p e s m args below meth c s₁ B hml hv
  obtain ⟨rfl, hsz⟩ := hv
  have hx := B.exec
  have hb := B.bytes
  have hr := B.returns
  have hts := atoms_spec (ws := (jk yX13_in cX13_in 3 (some .boolean))) B.pre
  have hown : s.vm.findClass RX13 = some m.cls := findClass_of_methodNamed B.named
  have hlocks := B.notSynchronized
  subst hsz
  have hP : va_P (dC, dI) vwCl [] s.heap := fun k q h => by simp at h
  generalize hAe : (va_A [] s.heap.size) = A
  have hA : ∀ q : Nat, s.heap.size ≤ q → A q := fun q h => by rw [← hAe]; exact Or.inr h
  have hS : va_S A s.heap s.heap [] := va_S.rf
  have hl := lv_entry ([.int p0, .int 10, .int 9]) (n := 3) (Nat.le_of_ble_eq_true rfl)
  rw [lg_entry_eq]
  generalize (lg_sl ([.int p0, .int 10, .int 9]) ++ List.replicate (3 - (lg_sl ([.int p0, .int 10, .int 9])).length) Slot.unset).toArray = ls at hl ⊢
  have hl : lv_has ls 3 [(0, .int p0), (1, .int 10), (2, .int 9)] := hl
  refine lv_iload_n hx hb dX13_in_0 rfl (lv_at hl 0 rfl) ?_
  refine lv_iload_n hx hb dX13_in_1 rfl (lv_at hl 1 rfl) ?_
  refine lv_icmp_lt (tgt := 14) hx hb dX13_in_2 (by decide) (fun c_1 => ?_) (fun c_1 => ?_)
  · refine lv_iconst (v := 0) hx hb dX13_in_14 (by decide) ?_
    exact W.zret (v := 0) (ty := .boolean) hx hb hr rfl (fun t ht hW => ⟨⟨0, (), rfl, (Or.inl ⟨c_1, rfl⟩), trivial⟩, hS.F ht⟩) hS.2.2 dX13_in_15
  · refine lv_iload_n hx hb dX13_in_5 rfl (lv_at hl 0 rfl) ?_
    refine lv_iload_n hx hb dX13_in_6 rfl (lv_at hl 2 rfl) ?_
    refine lv_icmp_gt (tgt := 14) hx hb dX13_in_7 (by decide) (fun _ => ?_) (fun z => absurd (jb_gt (jl_nlt c_1) (by decide)) z)
    refine lv_iconst (v := 0) hx hb dX13_in_14 (by decide) ?_
    exact W.zret (v := 0) (ty := .boolean) hx hb hr rfl (fun t ht hW => ⟨⟨0, (), rfl, (Or.inr ⟨c_1, rfl⟩), trivial⟩, hS.F ht⟩) hS.2.2 dX13_in_15
set_option maxHeartbeats 500000 in
set_option maxRecDepth 100000 in
theorem kX13_in_30 (l : Launch) (dC : Nat → ClassId) (dI : Nat → Nat → Nat) (sz : Nat) (p0 : Int32) : Met l yX13_in (jk yX13_in cX13_in 3 (some .boolean)) ({ frames := 0, cells := 0, slots := 0, locals := 0 }) (va_Pc [.int p0, .int 30, .int 29] (fun U => U.heap.size = sz)) (va_Qi (fun (r : Int32) (_ : Unit) => (p0 < 30 ∧ r = 0) ∨ (¬ (p0 < 30) ∧ r = 0)) (fun _ _ => True) (va_A [] sz)) 0 0 (va_A [] sz) := by
  refine Met.ofW (cc := cX13_in) (maxL := 3) (ret := (some .boolean)) (by decide) rfl ?_
  intro p e s m args below meth c s₁ B hml hv
  obtain ⟨rfl, hsz⟩ := hv
  have hx := B.exec
  have hb := B.bytes
  have hr := B.returns
  have hts := atoms_spec (ws := (jk yX13_in cX13_in 3 (some .boolean))) B.pre
  have hown : s.vm.findClass RX13 = some m.cls := findClass_of_methodNamed B.named
  have hlocks := B.notSynchronized
  subst hsz
  have hP : va_P (dC, dI) vwCl [] s.heap := fun k q h => by simp at h
  generalize hAe : (va_A [] s.heap.size) = A
  have hA : ∀ q : Nat, s.heap.size ≤ q → A q := fun q h => by rw [← hAe]; exact Or.inr h
  have hS : va_S A s.heap s.heap [] := va_S.rf
  have hl := lv_entry ([.int p0, .int 30, .int 29]) (n := 3) (Nat.le_of_ble_eq_true rfl)
  rw [lg_entry_eq]
  generalize (lg_sl ([.int p0, .int 30, .int 29]) ++ List.replicate (3 - (lg_sl ([.int p0, .int 30, .int 29])).length) Slot.unset).toArray = ls at hl ⊢
  have hl : lv_has ls 3 [(0, .int p0), (1, .int 30), (2, .int 29)] := hl
  refine lv_iload_n hx hb dX13_in_0 rfl (lv_at hl 0 rfl) ?_
  refine lv_iload_n hx hb dX13_in_1 rfl (lv_at hl 1 rfl) ?_
  refine lv_icmp_lt (tgt := 14) hx hb dX13_in_2 (by decide) (fun c_1 => ?_) (fun c_1 => ?_)
  · refine lv_iconst (v := 0) hx hb dX13_in_14 (by decide) ?_
    exact W.zret (v := 0) (ty := .boolean) hx hb hr rfl (fun t ht hW => ⟨⟨0, (), rfl, (Or.inl ⟨c_1, rfl⟩), trivial⟩, hS.F ht⟩) hS.2.2 dX13_in_15
  · refine lv_iload_n hx hb dX13_in_5 rfl (lv_at hl 0 rfl) ?_
    refine lv_iload_n hx hb dX13_in_6 rfl (lv_at hl 2 rfl) ?_
    refine lv_icmp_gt (tgt := 14) hx hb dX13_in_7 (by decide) (fun _ => ?_) (fun z => absurd (jb_gt (jl_nlt c_1) (by decide)) z)
    refine lv_iconst (v := 0) hx hb dX13_in_14 (by decide) ?_
    exact W.zret (v := 0) (ty := .boolean) hx hb hr rfl (fun t ht hW => ⟨⟨0, (), rfl, (Or.inr ⟨c_1, rfl⟩), trivial⟩, hS.F ht⟩) hS.2.2 dX13_in_15
theorem s_tX13_count_0 {p1 : Int32} (c_2 : p1 < 10) (c_5 : p1 < 30) (c_7 : (p1.toInt < 0 ∨ 8 < p1.toInt)) : (-1) = sp_count p1 := by
  unfold sp_count
  have g0 : p1.toInt < 10 := ji_lt.mp c_2
  have g1 : p1.toInt < 30 := ji_lt.mp c_5
  have g2 := c_7
  split <;> first | rfl | (exfalso; omega)
theorem s_tX13_count_1 {p1 : Int32} (c_2 : p1 < 10) (c_5 : p1 < 30) (c_7 : p1 = 0) : 0 = sp_count p1 := by
  unfold sp_count
  have g0 : p1.toInt < 10 := ji_lt.mp c_2
  have g1 : p1.toInt < 30 := ji_lt.mp c_5
  have g2 : p1.toInt = 0 := ji_eq.mp c_7
  split <;> first | rfl | (exfalso; omega)
theorem s_tX13_count_2 {p1 : Int32} (c_2 : p1 < 10) (c_5 : p1 < 30) (c_7 : p1 = 1) : 0 = sp_count p1 := by
  unfold sp_count
  have g0 : p1.toInt < 10 := ji_lt.mp c_2
  have g1 : p1.toInt < 30 := ji_lt.mp c_5
  have g2 : p1.toInt = 1 := ji_eq.mp c_7
  split <;> first | rfl | (exfalso; omega)
theorem s_tX13_count_3 {p1 : Int32} (c_2 : p1 < 10) (c_5 : p1 < 30) (c_7 : p1 = 2) : 0 = sp_count p1 := by
  unfold sp_count
  have g0 : p1.toInt < 10 := ji_lt.mp c_2
  have g1 : p1.toInt < 30 := ji_lt.mp c_5
  have g2 : p1.toInt = 2 := ji_eq.mp c_7
  split <;> first | rfl | (exfalso; omega)
theorem s_tX13_count_4 {p1 : Int32} (c_2 : p1 < 10) (c_5 : p1 < 30) (c_7 : p1 = 3) : 0 = sp_count p1 := by
  unfold sp_count
  have g0 : p1.toInt < 10 := ji_lt.mp c_2
  have g1 : p1.toInt < 30 := ji_lt.mp c_5
  have g2 : p1.toInt = 3 := ji_eq.mp c_7
  split <;> first | rfl | (exfalso; omega)
theorem s_tX13_count_5 {p1 : Int32} (c_2 : p1 < 10) (c_5 : p1 < 30) (c_7 : p1 = 4) : 0 = sp_count p1 := by
  unfold sp_count
  have g0 : p1.toInt < 10 := ji_lt.mp c_2
  have g1 : p1.toInt < 30 := ji_lt.mp c_5
  have g2 : p1.toInt = 4 := ji_eq.mp c_7
  split <;> first | rfl | (exfalso; omega)
theorem s_tX13_count_6 {p1 : Int32} (c_2 : p1 < 10) (c_5 : p1 < 30) (c_7 : p1 = 5) : 0 = sp_count p1 := by
  unfold sp_count
  have g0 : p1.toInt < 10 := ji_lt.mp c_2
  have g1 : p1.toInt < 30 := ji_lt.mp c_5
  have g2 : p1.toInt = 5 := ji_eq.mp c_7
  split <;> first | rfl | (exfalso; omega)
theorem s_tX13_count_7 {p1 : Int32} (c_2 : p1 < 10) (c_5 : p1 < 30) (c_7 : p1 = 6) : 0 = sp_count p1 := by
  unfold sp_count
  have g0 : p1.toInt < 10 := ji_lt.mp c_2
  have g1 : p1.toInt < 30 := ji_lt.mp c_5
  have g2 : p1.toInt = 6 := ji_eq.mp c_7
  split <;> first | rfl | (exfalso; omega)
theorem s_tX13_count_8 {p1 : Int32} (c_2 : p1 < 10) (c_5 : p1 < 30) (c_7 : p1 = 7) : 0 = sp_count p1 := by
  unfold sp_count
  have g0 : p1.toInt < 10 := ji_lt.mp c_2
  have g1 : p1.toInt < 30 := ji_lt.mp c_5
  have g2 : p1.toInt = 7 := ji_eq.mp c_7
  split <;> first | rfl | (exfalso; omega)
theorem s_tX13_count_9 {p1 : Int32} (c_2 : p1 < 10) (c_5 : p1 < 30) (c_7 : p1 = 8) : 0 = sp_count p1 := by
  unfold sp_count
  have g0 : p1.toInt < 10 := ji_lt.mp c_2
  have g1 : p1.toInt < 30 := ji_lt.mp c_5
  have g2 : p1.toInt = 8 := ji_eq.mp c_7
  split <;> first | rfl | (exfalso; omega)
theorem s_tX13_count_10 {p1 : Int32} (c_3 : ¬ (p1 < 10)) (c_9 : p1 < 30) (c_11 : (p1.toInt < 0 ∨ 8 < p1.toInt)) : (-1) = sp_count p1 := by
  unfold sp_count
  have g0 : ¬ (p1.toInt < 10) := fun z => c_3 (ji_lt.mpr z)
  have g1 : p1.toInt < 30 := ji_lt.mp c_9
  have g2 := c_11
  split <;> first | rfl | (exfalso; omega)
theorem s_tX13_count_11 {p1 : Int32} (c_3 : ¬ (p1 < 10)) (c_9 : p1 < 30) (c_11 : p1 = 0) : 0 = sp_count p1 := by
  unfold sp_count
  have g0 : ¬ (p1.toInt < 10) := fun z => c_3 (ji_lt.mpr z)
  have g1 : p1.toInt < 30 := ji_lt.mp c_9
  have g2 : p1.toInt = 0 := ji_eq.mp c_11
  split <;> first | rfl | (exfalso; omega)
theorem s_tX13_count_12 {p1 : Int32} (c_3 : ¬ (p1 < 10)) (c_9 : p1 < 30) (c_11 : p1 = 1) : 0 = sp_count p1 := by
  unfold sp_count
  have g0 : ¬ (p1.toInt < 10) := fun z => c_3 (ji_lt.mpr z)
  have g1 : p1.toInt < 30 := ji_lt.mp c_9
  have g2 : p1.toInt = 1 := ji_eq.mp c_11
  split <;> first | rfl | (exfalso; omega)
theorem s_tX13_count_13 {p1 : Int32} (c_3 : ¬ (p1 < 10)) (c_9 : p1 < 30) (c_11 : p1 = 2) : 0 = sp_count p1 := by
  unfold sp_count
  have g0 : ¬ (p1.toInt < 10) := fun z => c_3 (ji_lt.mpr z)
  have g1 : p1.toInt < 30 := ji_lt.mp c_9
  have g2 : p1.toInt = 2 := ji_eq.mp c_11
  split <;> first | rfl | (exfalso; omega)
theorem s_tX13_count_14 {p1 : Int32} (c_3 : ¬ (p1 < 10)) (c_9 : p1 < 30) (c_11 : p1 = 3) : 0 = sp_count p1 := by
  unfold sp_count
  have g0 : ¬ (p1.toInt < 10) := fun z => c_3 (ji_lt.mpr z)
  have g1 : p1.toInt < 30 := ji_lt.mp c_9
  have g2 : p1.toInt = 3 := ji_eq.mp c_11
  split <;> first | rfl | (exfalso; omega)
theorem s_tX13_count_15 {p1 : Int32} (c_3 : ¬ (p1 < 10)) (c_9 : p1 < 30) (c_11 : p1 = 4) : 0 = sp_count p1 := by
  unfold sp_count
  have g0 : ¬ (p1.toInt < 10) := fun z => c_3 (ji_lt.mpr z)
  have g1 : p1.toInt < 30 := ji_lt.mp c_9
  have g2 : p1.toInt = 4 := ji_eq.mp c_11
  split <;> first | rfl | (exfalso; omega)
theorem s_tX13_count_16 {p1 : Int32} (c_3 : ¬ (p1 < 10)) (c_9 : p1 < 30) (c_11 : p1 = 5) : 0 = sp_count p1 := by
  unfold sp_count
  have g0 : ¬ (p1.toInt < 10) := fun z => c_3 (ji_lt.mpr z)
  have g1 : p1.toInt < 30 := ji_lt.mp c_9
  have g2 : p1.toInt = 5 := ji_eq.mp c_11
  split <;> first | rfl | (exfalso; omega)
theorem s_tX13_count_17 {p1 : Int32} (c_3 : ¬ (p1 < 10)) (c_9 : p1 < 30) (c_11 : p1 = 6) : 0 = sp_count p1 := by
  unfold sp_count
  have g0 : ¬ (p1.toInt < 10) := fun z => c_3 (ji_lt.mpr z)
  have g1 : p1.toInt < 30 := ji_lt.mp c_9
  have g2 : p1.toInt = 6 := ji_eq.mp c_11
  split <;> first | rfl | (exfalso; omega)
theorem s_tX13_count_18 {p1 : Int32} (c_3 : ¬ (p1 < 10)) (c_9 : p1 < 30) (c_11 : p1 = 7) : 0 = sp_count p1 := by
  unfold sp_count
  have g0 : ¬ (p1.toInt < 10) := fun z => c_3 (ji_lt.mpr z)
  have g1 : p1.toInt < 30 := ji_lt.mp c_9
  have g2 : p1.toInt = 7 := ji_eq.mp c_11
  split <;> first | rfl | (exfalso; omega)
theorem s_tX13_count_19 {p1 : Int32} (c_3 : ¬ (p1 < 10)) (c_9 : p1 < 30) (c_11 : p1 = 8) : 0 = sp_count p1 := by
  unfold sp_count
  have g0 : ¬ (p1.toInt < 10) := fun z => c_3 (ji_lt.mpr z)
  have g1 : p1.toInt < 30 := ji_lt.mp c_9
  have g2 : p1.toInt = 8 := ji_eq.mp c_11
  split <;> first | rfl | (exfalso; omega)
theorem s_tX13_count_20 {p1 : Int32} (c_3 : ¬ (p1 < 10)) (c_10 : ¬ (p1 < 30)) (c_12 : (p1.toInt < 0 ∨ 8 < p1.toInt)) : (-1) = sp_count p1 := by
  unfold sp_count
  have g0 : ¬ (p1.toInt < 10) := fun z => c_3 (ji_lt.mpr z)
  have g1 : ¬ (p1.toInt < 30) := fun z => c_10 (ji_lt.mpr z)
  have g2 := c_12
  split <;> first | rfl | (exfalso; omega)
theorem s_tX13_count_21 {p1 : Int32} (c_3 : ¬ (p1 < 10)) (c_10 : ¬ (p1 < 30)) (c_12 : p1 = 0) : 0 = sp_count p1 := by
  unfold sp_count
  have g0 : ¬ (p1.toInt < 10) := fun z => c_3 (ji_lt.mpr z)
  have g1 : ¬ (p1.toInt < 30) := fun z => c_10 (ji_lt.mpr z)
  have g2 : p1.toInt = 0 := ji_eq.mp c_12
  split <;> first | rfl | (exfalso; omega)
theorem s_tX13_count_22 {p1 : Int32} (c_3 : ¬ (p1 < 10)) (c_10 : ¬ (p1 < 30)) (c_12 : p1 = 1) : 0 = sp_count p1 := by
  unfold sp_count
  have g0 : ¬ (p1.toInt < 10) := fun z => c_3 (ji_lt.mpr z)
  have g1 : ¬ (p1.toInt < 30) := fun z => c_10 (ji_lt.mpr z)
  have g2 : p1.toInt = 1 := ji_eq.mp c_12
  split <;> first | rfl | (exfalso; omega)
theorem s_tX13_count_23 {p1 : Int32} (c_3 : ¬ (p1 < 10)) (c_10 : ¬ (p1 < 30)) (c_12 : p1 = 2) : 0 = sp_count p1 := by
  unfold sp_count
  have g0 : ¬ (p1.toInt < 10) := fun z => c_3 (ji_lt.mpr z)
  have g1 : ¬ (p1.toInt < 30) := fun z => c_10 (ji_lt.mpr z)
  have g2 : p1.toInt = 2 := ji_eq.mp c_12
  split <;> first | rfl | (exfalso; omega)
theorem s_tX13_count_24 {p1 : Int32} (c_3 : ¬ (p1 < 10)) (c_10 : ¬ (p1 < 30)) (c_12 : p1 = 3) : 0 = sp_count p1 := by
  unfold sp_count
  have g0 : ¬ (p1.toInt < 10) := fun z => c_3 (ji_lt.mpr z)
  have g1 : ¬ (p1.toInt < 30) := fun z => c_10 (ji_lt.mpr z)
  have g2 : p1.toInt = 3 := ji_eq.mp c_12
  split <;> first | rfl | (exfalso; omega)
theorem s_tX13_count_25 {p1 : Int32} (c_3 : ¬ (p1 < 10)) (c_10 : ¬ (p1 < 30)) (c_12 : p1 = 4) : 0 = sp_count p1 := by
  unfold sp_count
  have g0 : ¬ (p1.toInt < 10) := fun z => c_3 (ji_lt.mpr z)
  have g1 : ¬ (p1.toInt < 30) := fun z => c_10 (ji_lt.mpr z)
  have g2 : p1.toInt = 4 := ji_eq.mp c_12
  split <;> first | rfl | (exfalso; omega)
theorem s_tX13_count_26 {p1 : Int32} (c_3 : ¬ (p1 < 10)) (c_10 : ¬ (p1 < 30)) (c_12 : p1 = 5) : 0 = sp_count p1 := by
  unfold sp_count
  have g0 : ¬ (p1.toInt < 10) := fun z => c_3 (ji_lt.mpr z)
  have g1 : ¬ (p1.toInt < 30) := fun z => c_10 (ji_lt.mpr z)
  have g2 : p1.toInt = 5 := ji_eq.mp c_12
  split <;> first | rfl | (exfalso; omega)
theorem s_tX13_count_27 {p1 : Int32} (c_3 : ¬ (p1 < 10)) (c_10 : ¬ (p1 < 30)) (c_12 : p1 = 6) : 0 = sp_count p1 := by
  unfold sp_count
  have g0 : ¬ (p1.toInt < 10) := fun z => c_3 (ji_lt.mpr z)
  have g1 : ¬ (p1.toInt < 30) := fun z => c_10 (ji_lt.mpr z)
  have g2 : p1.toInt = 6 := ji_eq.mp c_12
  split <;> first | rfl | (exfalso; omega)
theorem s_tX13_count_28 {p1 : Int32} (c_3 : ¬ (p1 < 10)) (c_10 : ¬ (p1 < 30)) (c_12 : p1 = 7) : 0 = sp_count p1 := by
  unfold sp_count
  have g0 : ¬ (p1.toInt < 10) := fun z => c_3 (ji_lt.mpr z)
  have g1 : ¬ (p1.toInt < 30) := fun z => c_10 (ji_lt.mpr z)
  have g2 : p1.toInt = 7 := ji_eq.mp c_12
  split <;> first | rfl | (exfalso; omega)
theorem s_tX13_count_29 {p1 : Int32} (c_3 : ¬ (p1 < 10)) (c_10 : ¬ (p1 < 30)) (c_12 : p1 = 8) : 0 = sp_count p1 := by
  unfold sp_count
  have g0 : ¬ (p1.toInt < 10) := fun z => c_3 (ji_lt.mpr z)
  have g1 : ¬ (p1.toInt < 30) := fun z => c_10 (ji_lt.mpr z)
  have g2 : p1.toInt = 8 := ji_eq.mp c_12
  split <;> first | rfl | (exfalso; omega)
set_option maxHeartbeats 1000000 in
set_option maxRecDepth 100000 in
theorem tX13_count (l : Launch) (dC : Nat → ClassId) (dI : Nat → Nat → Nat) (sz : Nat) (ad : Nat → Nat) (ca : Nat → ClassId) (p1 : Int32) : Met l yX13_count (jk yX13_count cX13_count 4 (some .int)) ({ frames := 1, cells := 0, slots := 0, locals := 22 }) (va_Pc [.ref (ad 0), .int p1] (jw_P (dC, dI) (mW ad ca) (mT ca) sz)) (va_Qi (fun (r : Int32) (_ : Unit) => r = sp_count p1) (fun _ _ => True) (va_A [] sz)) 0 0 (va_A [] sz) := by
  refine Met.ofW (cc := cX13_count) (maxL := 4) (ret := (some .int)) (by decide) rfl ?_
  intro p e s m args below meth c s₁ B hml hv
  obtain ⟨rfl, hsz, hP, hK, hD0⟩ := hv
  have hx := B.exec
  have hb := B.bytes
  have hr := B.returns
  have hts := atoms_spec (ws := (jk yX13_count cX13_count 4 (some .int))) B.pre
  have hown : s.vm.findClass RX13 = some m.cls := findClass_of_methodNamed B.named
  have hlocks := B.notSynchronized
  subst hsz
  have hD := hD0
  generalize hAe : (va_A [] s.heap.size) = A
  have hA : ∀ q : Nat, s.heap.size ≤ q → A q := fun q h => by rw [← hAe]; exact Or.inr h
  have hS : va_S A s.heap s.heap [] := va_S.rf
  have hP : va_P (dC, dI) vwCl (mW ad ca) s.heap := hP
  have hl := lv_entry ([.ref (ad 0), .int p1]) (n := 4) (Nat.le_of_ble_eq_true rfl)
  rw [lg_entry_eq]
  generalize (lg_sl ([.ref (ad 0), .int p1]) ++ List.replicate (4 - (lg_sl ([.ref (ad 0), .int p1])).length) Slot.unset).toArray = ls at hl ⊢
  have hl : lv_has ls 4 [(0, .ref (ad 0)), (1, .int p1)] := hl
  refine lv_iconst (v := 0) hx hb dX13_count_0 (by decide) ?_
  refine lv_istore_n (lv' := [(2, .int 0), (0, .ref (ad 0)), (1, .int p1)]) hx hb dX13_count_1 rfl hl (by decide) rfl (fun ls hl => ?_)
  refine lv_iload_n hx hb dX13_count_2 rfl (lv_at hl 2 rfl) ?_
  refine lv_bipush (v := 10) hx hb dX13_count_3 (by decide) ?_
  refine lv_bipush (v := 9) hx hb dX13_count_5 (by decide) ?_
  refine lv_aload_n hx hb dX13_count_7 rfl (lv_at hl 1 rfl) ?_
  refine va_get (D := (dC, dI)) (ci := 13) (v := .int 0) (C := RX13) (T := TX13) (N := 104) hx hb hts (jh hin_RX13) hown hK hP 0 rfl rfl 50 (by decide) (hts (.fieldLink RX13 445 "BookOfAllModel" "hands" "I") (jm m_556)) (fun _ h9 => h9) rfl dX13_count_8 ?_
  refine lv_iadd hx hb dX13_count_11 ?_
  refine jt_i 9 (by decide) ?_
  refine jc_i (va_runS (As := [.int p1, .int 10, .int 9]) (rest := []) ⟨hx, hb, hml, hown, hts⟩ (kX13_in_29 l dC dI _ p1) (va_cwS 3 hts (jgoodS m_493 m_494 m_96 m_495) rfl rfl rfl (by decide +kernel) ⟨Nat.le_of_ble_eq_true rfl, Nat.le_of_ble_eq_true rfl⟩) ⟨jw_blind0, fun U hU hW => ⟨rfl, congrArg Array.size hU⟩⟩ rfl rfl hl.1 rfl (lv_room (Nat.le_of_ble_eq_true rfl)) dX13_count_12 ⟨Nat.le_of_ble_eq_true rfl, Nat.le_of_ble_eq_true rfl⟩) hP hS hA (fun r_1 H locs hw_1 hP hS => ?_)
  rcases (show (p1 < 10 ∧ r_1 = 0) ∨ (¬ (p1 < 10) ∧ r_1 = 0) from hw_1) with ⟨c_2, e_2_0⟩ | ⟨c_3, e_3_1⟩
  · have e_2_0 := e_2_0.symm
    subst e_2_0
    refine lv_if_eq (tgt := 62) hx hb dX13_count_15 (by decide) (fun _ => ?_) (fun z => absurd (by decide) z)
    refine lv_iload_n hx hb dX13_count_62 rfl (lv_at hl 2 rfl) ?_
    refine lv_bipush (v := 30) hx hb dX13_count_63 (by decide) ?_
    refine lv_bipush (v := 29) hx hb dX13_count_65 (by decide) ?_
    refine lv_aload_n hx hb dX13_count_67 rfl (lv_at hl 1 rfl) ?_
    refine va_get (D := (dC, dI)) (ci := 13) (v := .int 0) (C := RX13) (T := TX13) (N := 104) hx hb hts (jh hin_RX13) hown hK hP 0 rfl rfl 50 (by decide) (hts (.fieldLink RX13 445 "BookOfAllModel" "hands" "I") (jm m_556)) (fun _ h9 => h9) rfl dX13_count_68 ?_
    refine lv_iadd hx hb dX13_count_71 ?_
    refine jt_i 29 (by decide) ?_
    refine jc_i (va_runS (As := [.int p1, .int 30, .int 29]) (rest := []) ⟨hx, hb, hml, hown, hts⟩ (kX13_in_30 l dC dI _ p1) (va_cwS 3 hts (jgoodS m_493 m_494 m_96 m_495) rfl rfl rfl (by decide +kernel) ⟨Nat.le_of_ble_eq_true rfl, Nat.le_of_ble_eq_true rfl⟩) ⟨jw_blind0, fun U hU hW => ⟨rfl, congrArg Array.size hU⟩⟩ rfl rfl hl.1 rfl (lv_room (Nat.le_of_ble_eq_true rfl)) dX13_count_72 ⟨Nat.le_of_ble_eq_true rfl, Nat.le_of_ble_eq_true rfl⟩) hP hS hA (fun r_4 H locs hw_4 hP hS => ?_)
    rcases (show (p1 < 30 ∧ r_4 = 0) ∨ (¬ (p1 < 30) ∧ r_4 = 0) from hw_4) with ⟨c_5, e_5_0⟩ | ⟨c_6, e_6_1⟩
    · have e_5_0 := e_5_0.symm
      subst e_5_0
      refine lv_if_eq (tgt := 96) hx hb dX13_count_75 (by decide) (fun _ => ?_) (fun z => absurd (by decide) z)
      refine lv_iload_n hx hb dX13_count_96 rfl (lv_at hl 2 rfl) ?_
      rcases jsw_0_8 p1 with c_7 | c_7 | c_7 | c_7 | c_7 | c_7 | c_7 | c_7 | c_7 | c_7
      · refine lv_tableOut (tgt := 245) hx hb dX13_count_97 c_7 (by decide) ?_
        refine lv_iconst (v := (-1)) hx hb dX13_count_245 (by decide) ?_
        exact W.iret (v := (-1)) hx hb hr (fun t ht hW => ⟨⟨(-1), (), rfl, (s_tX13_count_0 (p1 := p1) c_2 c_5 c_7), trivial⟩, hS.F ht⟩) hS.2.2 dX13_count_246
      · refine jtab_in (v := 0) (off := 51) (tgt := 148) hx hb dX13_count_97 c_7 (by decide) (by decide) (by decide) (by decide) ?_
        refine lv_aload_n hx hb dX13_count_148 rfl (lv_at hl 1 rfl) ?_
        refine va_get (D := (dC, dI)) (ci := 13) (v := .int 0) (C := RX13) (T := TX13) (N := 104) hx hb hts (jh hin_RX13) hown hK hP 0 rfl rfl 30 (by decide) (hts (.fieldLink RX13 383 "BookOfAllModel" "now" "I") (jm m_525)) (fun _ h9 => h9) rfl dX13_count_149 ?_
        exact W.iret (v := 0) hx hb hr (fun t ht hW => ⟨⟨0, (), rfl, (s_tX13_count_1 (p1 := p1) c_2 c_5 c_7), trivial⟩, hS.F ht⟩) hS.2.2 dX13_count_152
      · refine jtab_in (v := 1) (off := 56) (tgt := 153) hx hb dX13_count_97 c_7 (by decide) (by decide) (by decide) (by decide) ?_
        refine lv_aload_n hx hb dX13_count_153 rfl (lv_at hl 1 rfl) ?_
        refine va_get (D := (dC, dI)) (ci := 13) (v := .int 0) (C := RX13) (T := TX13) (N := 104) hx hb hts (jh hin_RX13) hown hK hP 0 rfl rfl 37 (by decide) (hts (.fieldLink RX13 418 "BookOfAllModel" "entries" "I") (jm m_535)) (fun _ h9 => h9) rfl dX13_count_154 ?_
        exact W.iret (v := 0) hx hb hr (fun t ht hW => ⟨⟨0, (), rfl, (s_tX13_count_2 (p1 := p1) c_2 c_5 c_7), trivial⟩, hS.F ht⟩) hS.2.2 dX13_count_157
      · refine jtab_in (v := 2) (off := 61) (tgt := 158) hx hb dX13_count_97 c_7 (by decide) (by decide) (by decide) (by decide) ?_
        refine lv_aload_n hx hb dX13_count_158 rfl (lv_at hl 1 rfl) ?_
        refine va_get (D := (dC, dI)) (ci := 13) (v := .int 0) (C := RX13) (T := TX13) (N := 104) hx hb hts (jh hin_RX13) hown hK hP 0 rfl rfl 50 (by decide) (hts (.fieldLink RX13 445 "BookOfAllModel" "hands" "I") (jm m_556)) (fun _ h9 => h9) rfl dX13_count_159 ?_
        exact W.iret (v := 0) hx hb hr (fun t ht hW => ⟨⟨0, (), rfl, (s_tX13_count_3 (p1 := p1) c_2 c_5 c_7), trivial⟩, hS.F ht⟩) hS.2.2 dX13_count_162
      · refine jtab_in (v := 3) (off := 66) (tgt := 163) hx hb dX13_count_97 c_7 (by decide) (by decide) (by decide) (by decide) ?_
        refine lv_aload_n hx hb dX13_count_163 rfl (lv_at hl 1 rfl) ?_
        refine va_get (D := (dC, dI)) (ci := 13) (v := .int 0) (C := RX13) (T := TX13) (N := 104) hx hb hts (jh hin_RX13) hown hK hP 0 rfl rfl 56 (by decide) (hts (.fieldLink RX13 452 "BookOfAllModel" "lines" "I") (jm m_574)) (fun _ h9 => h9) rfl dX13_count_164 ?_
        exact W.iret (v := 0) hx hb hr (fun t ht hW => ⟨⟨0, (), rfl, (s_tX13_count_4 (p1 := p1) c_2 c_5 c_7), trivial⟩, hS.F ht⟩) hS.2.2 dX13_count_167
      · refine jtab_in (v := 4) (off := 71) (tgt := 168) hx hb dX13_count_97 c_7 (by decide) (by decide) (by decide) (by decide) ?_
        refine lv_aload_n hx hb dX13_count_168 rfl (lv_at hl 1 rfl) ?_
        refine va_get (D := (dC, dI)) (ci := 13) (v := .int 0) (C := RX13) (T := TX13) (N := 104) hx hb hts (jh hin_RX13) hown hK hP 0 rfl rfl 18 (by decide) (hts (.fieldLink RX13 374 "BookOfAllModel" "sheets" "I") (jm m_524)) (fun _ h9 => h9) rfl dX13_count_169 ?_
        exact W.iret (v := 0) hx hb hr (fun t ht hW => ⟨⟨0, (), rfl, (s_tX13_count_5 (p1 := p1) c_2 c_5 c_7), trivial⟩, hS.F ht⟩) hS.2.2 dX13_count_172
      · refine jtab_in (v := 5) (off := 76) (tgt := 173) hx hb dX13_count_97 c_7 (by decide) (by decide) (by decide) (by decide) ?_
        refine lv_aload_n hx hb dX13_count_173 rfl (lv_at hl 1 rfl) ?_
        refine va_get (D := (dC, dI)) (ci := 13) (v := .int 0) (C := RX13) (T := TX13) (N := 104) hx hb hts (jh hin_RX13) hown hK hP 0 rfl rfl 71 (by decide) (hts (.fieldLink RX13 488 "BookOfAllModel" "errata" "I") (jm m_579)) (fun _ h9 => h9) rfl dX13_count_174 ?_
        exact W.iret (v := 0) hx hb hr (fun t ht hW => ⟨⟨0, (), rfl, (s_tX13_count_6 (p1 := p1) c_2 c_5 c_7), trivial⟩, hS.F ht⟩) hS.2.2 dX13_count_177
      · refine jtab_in (v := 6) (off := 81) (tgt := 178) hx hb dX13_count_97 c_7 (by decide) (by decide) (by decide) (by decide) ?_
        refine lv_iconst (v := 0) hx hb dX13_count_178 (by decide) ?_
        refine lv_istore_n (lv' := [(3, .int 0), (2, .int 0), (0, .ref (ad 0)), (1, .int p1)]) hx hb dX13_count_179 rfl hl (by decide) rfl (fun ls hl => ?_)
        refine lv_iload_n hx hb dX13_count_180 rfl (lv_at hl 0 rfl) ?_
        refine lv_bipush (v := 6) hx hb dX13_count_181 (by decide) ?_
        refine lv_icmp_ge (tgt := 211) hx hb dX13_count_183 (by decide) (fun z => absurd z (by decide)) (fun _ => ?_)
        refine lv_iload_n hx hb dX13_count_186 rfl (lv_at hl 1 rfl) ?_
        refine lv_aload_n hx hb dX13_count_187 rfl (lv_at hl 2 rfl) ?_
        refine va_get (D := (dC, dI)) (ci := 13) (v := .ref (ad 20)) (C := RX13) (T := TX13) (N := 104) hx hb hts (jh hin_RX13) hown hK hP 0 rfl rfl 32 (by decide) (hts (.fieldLink RX13 68 "BookOfAllModel" "isSet" "[Z") (jm m_22)) (fun _ h9 => h9) rfl dX13_count_188 ?_
        refine lv_iload_n hx hb dX13_count_191 rfl (lv_at hl 0 rfl) ?_
        refine va_zald hx hb hK hP 20 19 rfl rfl (vp_in_nI (n := 0) (by decide) (by decide)) dX13_count_192 ?_
        refine jt_i 0 (by decide) ?_
        refine lv_if_eq (tgt := 202) hx hb dX13_count_193 (by decide) (fun _ => ?_) (fun z => absurd (by decide) z)
        refine lv_iconst (v := 0) hx hb dX13_count_202 (by decide) ?_
        refine lv_ior hx hb dX13_count_203 ?_
        refine jt_i 0 (by decide) ?_
        refine lv_istore_n (lv' := [(2, .int 0), (3, .int 0), (0, .ref (ad 0)), (1, .int p1)]) hx hb dX13_count_204 rfl hl (by decide) rfl (fun ls hl => ?_)
        refine lv_iinc (v := 1) (lv' := [(3, .int 1), (2, .int 0), (0, .ref (ad 0)), (1, .int p1)]) hx hb dX13_count_205 hl (k := 1) rfl (by decide) (by decide) rfl (fun ls hl => ?_)
        refine lv_goto (tgt := 180) hx hb dX13_count_208 (by decide) ?_
        refine lv_iload_n hx hb dX13_count_180 rfl (lv_at hl 0 rfl) ?_
        refine lv_bipush (v := 6) hx hb dX13_count_181 (by decide) ?_
        refine lv_icmp_ge (tgt := 211) hx hb dX13_count_183 (by decide) (fun z => absurd z (by decide)) (fun _ => ?_)
        refine lv_iload_n hx hb dX13_count_186 rfl (lv_at hl 1 rfl) ?_
        refine lv_aload_n hx hb dX13_count_187 rfl (lv_at hl 2 rfl) ?_
        refine va_get (D := (dC, dI)) (ci := 13) (v := .ref (ad 20)) (C := RX13) (T := TX13) (N := 104) hx hb hts (jh hin_RX13) hown hK hP 0 rfl rfl 32 (by decide) (hts (.fieldLink RX13 68 "BookOfAllModel" "isSet" "[Z") (jm m_22)) (fun _ h9 => h9) rfl dX13_count_188 ?_
        refine lv_iload_n hx hb dX13_count_191 rfl (lv_at hl 0 rfl) ?_
        refine va_zald hx hb hK hP 20 19 rfl rfl (vp_in_nI (n := 1) (by decide) (by decide)) dX13_count_192 ?_
        refine jt_i 0 (by decide) ?_
        refine lv_if_eq (tgt := 202) hx hb dX13_count_193 (by decide) (fun _ => ?_) (fun z => absurd (by decide) z)
        refine lv_iconst (v := 0) hx hb dX13_count_202 (by decide) ?_
        refine lv_ior hx hb dX13_count_203 ?_
        refine jt_i 0 (by decide) ?_
        refine lv_istore_n (lv' := [(2, .int 0), (3, .int 1), (0, .ref (ad 0)), (1, .int p1)]) hx hb dX13_count_204 rfl hl (by decide) rfl (fun ls hl => ?_)
        refine lv_iinc (v := 2) (lv' := [(3, .int 2), (2, .int 0), (0, .ref (ad 0)), (1, .int p1)]) hx hb dX13_count_205 hl (k := 1) rfl (by decide) (by decide) rfl (fun ls hl => ?_)
        refine lv_goto (tgt := 180) hx hb dX13_count_208 (by decide) ?_
        refine lv_iload_n hx hb dX13_count_180 rfl (lv_at hl 0 rfl) ?_
        refine lv_bipush (v := 6) hx hb dX13_count_181 (by decide) ?_
        refine lv_icmp_ge (tgt := 211) hx hb dX13_count_183 (by decide) (fun z => absurd z (by decide)) (fun _ => ?_)
        refine lv_iload_n hx hb dX13_count_186 rfl (lv_at hl 1 rfl) ?_
        refine lv_aload_n hx hb dX13_count_187 rfl (lv_at hl 2 rfl) ?_
        refine va_get (D := (dC, dI)) (ci := 13) (v := .ref (ad 20)) (C := RX13) (T := TX13) (N := 104) hx hb hts (jh hin_RX13) hown hK hP 0 rfl rfl 32 (by decide) (hts (.fieldLink RX13 68 "BookOfAllModel" "isSet" "[Z") (jm m_22)) (fun _ h9 => h9) rfl dX13_count_188 ?_
        refine lv_iload_n hx hb dX13_count_191 rfl (lv_at hl 0 rfl) ?_
        refine va_zald hx hb hK hP 20 19 rfl rfl (vp_in_nI (n := 2) (by decide) (by decide)) dX13_count_192 ?_
        refine jt_i 0 (by decide) ?_
        refine lv_if_eq (tgt := 202) hx hb dX13_count_193 (by decide) (fun _ => ?_) (fun z => absurd (by decide) z)
        refine lv_iconst (v := 0) hx hb dX13_count_202 (by decide) ?_
        refine lv_ior hx hb dX13_count_203 ?_
        refine jt_i 0 (by decide) ?_
        refine lv_istore_n (lv' := [(2, .int 0), (3, .int 2), (0, .ref (ad 0)), (1, .int p1)]) hx hb dX13_count_204 rfl hl (by decide) rfl (fun ls hl => ?_)
        refine lv_iinc (v := 3) (lv' := [(3, .int 3), (2, .int 0), (0, .ref (ad 0)), (1, .int p1)]) hx hb dX13_count_205 hl (k := 1) rfl (by decide) (by decide) rfl (fun ls hl => ?_)
        refine lv_goto (tgt := 180) hx hb dX13_count_208 (by decide) ?_
        refine lv_iload_n hx hb dX13_count_180 rfl (lv_at hl 0 rfl) ?_
        refine lv_bipush (v := 6) hx hb dX13_count_181 (by decide) ?_
        refine lv_icmp_ge (tgt := 211) hx hb dX13_count_183 (by decide) (fun z => absurd z (by decide)) (fun _ => ?_)
        refine lv_iload_n hx hb dX13_count_186 rfl (lv_at hl 1 rfl) ?_
        refine lv_aload_n hx hb dX13_count_187 rfl (lv_at hl 2 rfl) ?_
        refine va_get (D := (dC, dI)) (ci := 13) (v := .ref (ad 20)) (C := RX13) (T := TX13) (N := 104) hx hb hts (jh hin_RX13) hown hK hP 0 rfl rfl 32 (by decide) (hts (.fieldLink RX13 68 "BookOfAllModel" "isSet" "[Z") (jm m_22)) (fun _ h9 => h9) rfl dX13_count_188 ?_
        refine lv_iload_n hx hb dX13_count_191 rfl (lv_at hl 0 rfl) ?_
        refine va_zald hx hb hK hP 20 19 rfl rfl (vp_in_nI (n := 3) (by decide) (by decide)) dX13_count_192 ?_
        refine jt_i 0 (by decide) ?_
        refine lv_if_eq (tgt := 202) hx hb dX13_count_193 (by decide) (fun _ => ?_) (fun z => absurd (by decide) z)
        refine lv_iconst (v := 0) hx hb dX13_count_202 (by decide) ?_
        refine lv_ior hx hb dX13_count_203 ?_
        refine jt_i 0 (by decide) ?_
        refine lv_istore_n (lv' := [(2, .int 0), (3, .int 3), (0, .ref (ad 0)), (1, .int p1)]) hx hb dX13_count_204 rfl hl (by decide) rfl (fun ls hl => ?_)
        refine lv_iinc (v := 4) (lv' := [(3, .int 4), (2, .int 0), (0, .ref (ad 0)), (1, .int p1)]) hx hb dX13_count_205 hl (k := 1) rfl (by decide) (by decide) rfl (fun ls hl => ?_)
        refine lv_goto (tgt := 180) hx hb dX13_count_208 (by decide) ?_
        refine lv_iload_n hx hb dX13_count_180 rfl (lv_at hl 0 rfl) ?_
        refine lv_bipush (v := 6) hx hb dX13_count_181 (by decide) ?_
        refine lv_icmp_ge (tgt := 211) hx hb dX13_count_183 (by decide) (fun z => absurd z (by decide)) (fun _ => ?_)
        refine lv_iload_n hx hb dX13_count_186 rfl (lv_at hl 1 rfl) ?_
        refine lv_aload_n hx hb dX13_count_187 rfl (lv_at hl 2 rfl) ?_
        refine va_get (D := (dC, dI)) (ci := 13) (v := .ref (ad 20)) (C := RX13) (T := TX13) (N := 104) hx hb hts (jh hin_RX13) hown hK hP 0 rfl rfl 32 (by decide) (hts (.fieldLink RX13 68 "BookOfAllModel" "isSet" "[Z") (jm m_22)) (fun _ h9 => h9) rfl dX13_count_188 ?_
        refine lv_iload_n hx hb dX13_count_191 rfl (lv_at hl 0 rfl) ?_
        refine va_zald hx hb hK hP 20 19 rfl rfl (vp_in_nI (n := 4) (by decide) (by decide)) dX13_count_192 ?_
        refine jt_i 0 (by decide) ?_
        refine lv_if_eq (tgt := 202) hx hb dX13_count_193 (by decide) (fun _ => ?_) (fun z => absurd (by decide) z)
        refine lv_iconst (v := 0) hx hb dX13_count_202 (by decide) ?_
        refine lv_ior hx hb dX13_count_203 ?_
        refine jt_i 0 (by decide) ?_
        refine lv_istore_n (lv' := [(2, .int 0), (3, .int 4), (0, .ref (ad 0)), (1, .int p1)]) hx hb dX13_count_204 rfl hl (by decide) rfl (fun ls hl => ?_)
        refine lv_iinc (v := 5) (lv' := [(3, .int 5), (2, .int 0), (0, .ref (ad 0)), (1, .int p1)]) hx hb dX13_count_205 hl (k := 1) rfl (by decide) (by decide) rfl (fun ls hl => ?_)
        refine lv_goto (tgt := 180) hx hb dX13_count_208 (by decide) ?_
        refine lv_iload_n hx hb dX13_count_180 rfl (lv_at hl 0 rfl) ?_
        refine lv_bipush (v := 6) hx hb dX13_count_181 (by decide) ?_
        refine lv_icmp_ge (tgt := 211) hx hb dX13_count_183 (by decide) (fun z => absurd z (by decide)) (fun _ => ?_)
        refine lv_iload_n hx hb dX13_count_186 rfl (lv_at hl 1 rfl) ?_
        refine lv_aload_n hx hb dX13_count_187 rfl (lv_at hl 2 rfl) ?_
        refine va_get (D := (dC, dI)) (ci := 13) (v := .ref (ad 20)) (C := RX13) (T := TX13) (N := 104) hx hb hts (jh hin_RX13) hown hK hP 0 rfl rfl 32 (by decide) (hts (.fieldLink RX13 68 "BookOfAllModel" "isSet" "[Z") (jm m_22)) (fun _ h9 => h9) rfl dX13_count_188 ?_
        refine lv_iload_n hx hb dX13_count_191 rfl (lv_at hl 0 rfl) ?_
        refine va_zald hx hb hK hP 20 19 rfl rfl (vp_in_nI (n := 5) (by decide) (by decide)) dX13_count_192 ?_
        refine jt_i 0 (by decide) ?_
        refine lv_if_eq (tgt := 202) hx hb dX13_count_193 (by decide) (fun _ => ?_) (fun z => absurd (by decide) z)
        refine lv_iconst (v := 0) hx hb dX13_count_202 (by decide) ?_
        refine lv_ior hx hb dX13_count_203 ?_
        refine jt_i 0 (by decide) ?_
        refine lv_istore_n (lv' := [(2, .int 0), (3, .int 5), (0, .ref (ad 0)), (1, .int p1)]) hx hb dX13_count_204 rfl hl (by decide) rfl (fun ls hl => ?_)
        refine lv_iinc (v := 6) (lv' := [(3, .int 6), (2, .int 0), (0, .ref (ad 0)), (1, .int p1)]) hx hb dX13_count_205 hl (k := 1) rfl (by decide) (by decide) rfl (fun ls hl => ?_)
        refine lv_goto (tgt := 180) hx hb dX13_count_208 (by decide) ?_
        refine lv_iload_n hx hb dX13_count_180 rfl (lv_at hl 0 rfl) ?_
        refine lv_bipush (v := 6) hx hb dX13_count_181 (by decide) ?_
        refine lv_icmp_ge (tgt := 211) hx hb dX13_count_183 (by decide) (fun _ => ?_) (fun z => absurd (by decide) z)
        refine lv_iload_n hx hb dX13_count_211 rfl (lv_at hl 1 rfl) ?_
        exact W.iret (v := 0) hx hb hr (fun t ht hW => ⟨⟨0, (), rfl, (s_tX13_count_7 (p1 := p1) c_2 c_5 c_7), trivial⟩, hS.F ht⟩) hS.2.2 dX13_count_212
      · refine jtab_in (v := 7) (off := 116) (tgt := 213) hx hb dX13_count_97 c_7 (by decide) (by decide) (by decide) (by decide) ?_
        refine lv_aload_n hx hb dX13_count_213 rfl (lv_at hl 1 rfl) ?_
        refine va_get (D := (dC, dI)) (ci := 13) (v := .int 0) (C := RX13) (T := TX13) (N := 104) hx hb hts (jh hin_RX13) hown hK hP 0 rfl rfl 1 (by decide) (hts (.fieldLink RX13 252 "BookOfAllModel" "size" "I") (jm m_492)) (fun _ h9 => h9) rfl dX13_count_214 ?_
        exact W.iret (v := 0) hx hb hr (fun t ht hW => ⟨⟨0, (), rfl, (s_tX13_count_8 (p1 := p1) c_2 c_5 c_7), trivial⟩, hS.F ht⟩) hS.2.2 dX13_count_217
      · refine jtab_in (v := 8) (off := 121) (tgt := 218) hx hb dX13_count_97 c_7 (by decide) (by decide) (by decide) (by decide) ?_
        refine lv_iconst (v := 0) hx hb dX13_count_218 (by decide) ?_
        refine lv_istore_n (lv' := [(3, .int 0), (2, .int 0), (0, .ref (ad 0)), (1, .int p1)]) hx hb dX13_count_219 rfl hl (by decide) rfl (fun ls hl => ?_)
        refine lv_iload_n hx hb dX13_count_220 rfl (lv_at hl 0 rfl) ?_
        refine lv_aload_n hx hb dX13_count_221 rfl (lv_at hl 2 rfl) ?_
        refine va_get (D := (dC, dI)) (ci := 13) (v := .int 0) (C := RX13) (T := TX13) (N := 104) hx hb hts (jh hin_RX13) hown hK hP 0 rfl rfl 56 (by decide) (hts (.fieldLink RX13 452 "BookOfAllModel" "lines" "I") (jm m_574)) (fun _ h9 => h9) rfl dX13_count_222 ?_
        refine lv_icmp_ge (tgt := 243) hx hb dX13_count_225 (by decide) (fun _ => ?_) (fun z => absurd (by decide) z)
        refine lv_iload_n hx hb dX13_count_243 rfl (lv_at hl 1 rfl) ?_
        exact W.iret (v := 0) hx hb hr (fun t ht hW => ⟨⟨0, (), rfl, (s_tX13_count_9 (p1 := p1) c_2 c_5 c_7), trivial⟩, hS.F ht⟩) hS.2.2 dX13_count_244
    · have e_6_1 := e_6_1.symm
      subst e_6_1
      exact (jx_no (jl_nlt c_6) (jl_lt (d := 9) c_2 (by decide)) (by decide)).elim
  · have e_3_1 := e_3_1.symm
    subst e_3_1
    refine lv_if_eq (tgt := 62) hx hb dX13_count_15 (by decide) (fun _ => ?_) (fun z => absurd (by decide) z)
    refine lv_iload_n hx hb dX13_count_62 rfl (lv_at hl 2 rfl) ?_
    refine lv_bipush (v := 30) hx hb dX13_count_63 (by decide) ?_
    refine lv_bipush (v := 29) hx hb dX13_count_65 (by decide) ?_
    refine lv_aload_n hx hb dX13_count_67 rfl (lv_at hl 1 rfl) ?_
    refine va_get (D := (dC, dI)) (ci := 13) (v := .int 0) (C := RX13) (T := TX13) (N := 104) hx hb hts (jh hin_RX13) hown hK hP 0 rfl rfl 50 (by decide) (hts (.fieldLink RX13 445 "BookOfAllModel" "hands" "I") (jm m_556)) (fun _ h9 => h9) rfl dX13_count_68 ?_
    refine lv_iadd hx hb dX13_count_71 ?_
    refine jt_i 29 (by decide) ?_
    refine jc_i (va_runS (As := [.int p1, .int 30, .int 29]) (rest := []) ⟨hx, hb, hml, hown, hts⟩ (kX13_in_30 l dC dI _ p1) (va_cwS 3 hts (jgoodS m_493 m_494 m_96 m_495) rfl rfl rfl (by decide +kernel) ⟨Nat.le_of_ble_eq_true rfl, Nat.le_of_ble_eq_true rfl⟩) ⟨jw_blind0, fun U hU hW => ⟨rfl, congrArg Array.size hU⟩⟩ rfl rfl hl.1 rfl (lv_room (Nat.le_of_ble_eq_true rfl)) dX13_count_72 ⟨Nat.le_of_ble_eq_true rfl, Nat.le_of_ble_eq_true rfl⟩) hP hS hA (fun r_8 H locs hw_8 hP hS => ?_)
    rcases (show (p1 < 30 ∧ r_8 = 0) ∨ (¬ (p1 < 30) ∧ r_8 = 0) from hw_8) with ⟨c_9, e_9_0⟩ | ⟨c_10, e_10_1⟩
    · have e_9_0 := e_9_0.symm
      subst e_9_0
      refine lv_if_eq (tgt := 96) hx hb dX13_count_75 (by decide) (fun _ => ?_) (fun z => absurd (by decide) z)
      refine lv_iload_n hx hb dX13_count_96 rfl (lv_at hl 2 rfl) ?_
      rcases jsw_0_8 p1 with c_11 | c_11 | c_11 | c_11 | c_11 | c_11 | c_11 | c_11 | c_11 | c_11
      · refine lv_tableOut (tgt := 245) hx hb dX13_count_97 c_11 (by decide) ?_
        refine lv_iconst (v := (-1)) hx hb dX13_count_245 (by decide) ?_
        exact W.iret (v := (-1)) hx hb hr (fun t ht hW => ⟨⟨(-1), (), rfl, (s_tX13_count_10 (p1 := p1) c_3 c_9 c_11), trivial⟩, hS.F ht⟩) hS.2.2 dX13_count_246
      · refine jtab_in (v := 0) (off := 51) (tgt := 148) hx hb dX13_count_97 c_11 (by decide) (by decide) (by decide) (by decide) ?_
        refine lv_aload_n hx hb dX13_count_148 rfl (lv_at hl 1 rfl) ?_
        refine va_get (D := (dC, dI)) (ci := 13) (v := .int 0) (C := RX13) (T := TX13) (N := 104) hx hb hts (jh hin_RX13) hown hK hP 0 rfl rfl 30 (by decide) (hts (.fieldLink RX13 383 "BookOfAllModel" "now" "I") (jm m_525)) (fun _ h9 => h9) rfl dX13_count_149 ?_
        exact W.iret (v := 0) hx hb hr (fun t ht hW => ⟨⟨0, (), rfl, (s_tX13_count_11 (p1 := p1) c_3 c_9 c_11), trivial⟩, hS.F ht⟩) hS.2.2 dX13_count_152
      · refine jtab_in (v := 1) (off := 56) (tgt := 153) hx hb dX13_count_97 c_11 (by decide) (by decide) (by decide) (by decide) ?_
        refine lv_aload_n hx hb dX13_count_153 rfl (lv_at hl 1 rfl) ?_
        refine va_get (D := (dC, dI)) (ci := 13) (v := .int 0) (C := RX13) (T := TX13) (N := 104) hx hb hts (jh hin_RX13) hown hK hP 0 rfl rfl 37 (by decide) (hts (.fieldLink RX13 418 "BookOfAllModel" "entries" "I") (jm m_535)) (fun _ h9 => h9) rfl dX13_count_154 ?_
        exact W.iret (v := 0) hx hb hr (fun t ht hW => ⟨⟨0, (), rfl, (s_tX13_count_12 (p1 := p1) c_3 c_9 c_11), trivial⟩, hS.F ht⟩) hS.2.2 dX13_count_157
      · refine jtab_in (v := 2) (off := 61) (tgt := 158) hx hb dX13_count_97 c_11 (by decide) (by decide) (by decide) (by decide) ?_
        refine lv_aload_n hx hb dX13_count_158 rfl (lv_at hl 1 rfl) ?_
        refine va_get (D := (dC, dI)) (ci := 13) (v := .int 0) (C := RX13) (T := TX13) (N := 104) hx hb hts (jh hin_RX13) hown hK hP 0 rfl rfl 50 (by decide) (hts (.fieldLink RX13 445 "BookOfAllModel" "hands" "I") (jm m_556)) (fun _ h9 => h9) rfl dX13_count_159 ?_
        exact W.iret (v := 0) hx hb hr (fun t ht hW => ⟨⟨0, (), rfl, (s_tX13_count_13 (p1 := p1) c_3 c_9 c_11), trivial⟩, hS.F ht⟩) hS.2.2 dX13_count_162
      · refine jtab_in (v := 3) (off := 66) (tgt := 163) hx hb dX13_count_97 c_11 (by decide) (by decide) (by decide) (by decide) ?_
        refine lv_aload_n hx hb dX13_count_163 rfl (lv_at hl 1 rfl) ?_
        refine va_get (D := (dC, dI)) (ci := 13) (v := .int 0) (C := RX13) (T := TX13) (N := 104) hx hb hts (jh hin_RX13) hown hK hP 0 rfl rfl 56 (by decide) (hts (.fieldLink RX13 452 "BookOfAllModel" "lines" "I") (jm m_574)) (fun _ h9 => h9) rfl dX13_count_164 ?_
        exact W.iret (v := 0) hx hb hr (fun t ht hW => ⟨⟨0, (), rfl, (s_tX13_count_14 (p1 := p1) c_3 c_9 c_11), trivial⟩, hS.F ht⟩) hS.2.2 dX13_count_167
      · refine jtab_in (v := 4) (off := 71) (tgt := 168) hx hb dX13_count_97 c_11 (by decide) (by decide) (by decide) (by decide) ?_
        refine lv_aload_n hx hb dX13_count_168 rfl (lv_at hl 1 rfl) ?_
        refine va_get (D := (dC, dI)) (ci := 13) (v := .int 0) (C := RX13) (T := TX13) (N := 104) hx hb hts (jh hin_RX13) hown hK hP 0 rfl rfl 18 (by decide) (hts (.fieldLink RX13 374 "BookOfAllModel" "sheets" "I") (jm m_524)) (fun _ h9 => h9) rfl dX13_count_169 ?_
        exact W.iret (v := 0) hx hb hr (fun t ht hW => ⟨⟨0, (), rfl, (s_tX13_count_15 (p1 := p1) c_3 c_9 c_11), trivial⟩, hS.F ht⟩) hS.2.2 dX13_count_172
      · refine jtab_in (v := 5) (off := 76) (tgt := 173) hx hb dX13_count_97 c_11 (by decide) (by decide) (by decide) (by decide) ?_
        refine lv_aload_n hx hb dX13_count_173 rfl (lv_at hl 1 rfl) ?_
        refine va_get (D := (dC, dI)) (ci := 13) (v := .int 0) (C := RX13) (T := TX13) (N := 104) hx hb hts (jh hin_RX13) hown hK hP 0 rfl rfl 71 (by decide) (hts (.fieldLink RX13 488 "BookOfAllModel" "errata" "I") (jm m_579)) (fun _ h9 => h9) rfl dX13_count_174 ?_
        exact W.iret (v := 0) hx hb hr (fun t ht hW => ⟨⟨0, (), rfl, (s_tX13_count_16 (p1 := p1) c_3 c_9 c_11), trivial⟩, hS.F ht⟩) hS.2.2 dX13_count_177
      · refine jtab_in (v := 6) (off := 81) (tgt := 178) hx hb dX13_count_97 c_11 (by decide) (by decide) (by decide) (by decide) ?_
        refine lv_iconst (v := 0) hx hb dX13_count_178 (by decide) ?_
        refine lv_istore_n (lv' := [(3, .int 0), (2, .int 0), (0, .ref (ad 0)), (1, .int p1)]) hx hb dX13_count_179 rfl hl (by decide) rfl (fun ls hl => ?_)
        refine lv_iload_n hx hb dX13_count_180 rfl (lv_at hl 0 rfl) ?_
        refine lv_bipush (v := 6) hx hb dX13_count_181 (by decide) ?_
        refine lv_icmp_ge (tgt := 211) hx hb dX13_count_183 (by decide) (fun z => absurd z (by decide)) (fun _ => ?_)
        refine lv_iload_n hx hb dX13_count_186 rfl (lv_at hl 1 rfl) ?_
        refine lv_aload_n hx hb dX13_count_187 rfl (lv_at hl 2 rfl) ?_
        refine va_get (D := (dC, dI)) (ci := 13) (v := .ref (ad 20)) (C := RX13) (T := TX13) (N := 104) hx hb hts (jh hin_RX13) hown hK hP 0 rfl rfl 32 (by decide) (hts (.fieldLink RX13 68 "BookOfAllModel" "isSet" "[Z") (jm m_22)) (fun _ h9 => h9) rfl dX13_count_188 ?_
        refine lv_iload_n hx hb dX13_count_191 rfl (lv_at hl 0 rfl) ?_
        refine va_zald hx hb hK hP 20 19 rfl rfl (vp_in_nI (n := 0) (by decide) (by decide)) dX13_count_192 ?_
        refine jt_i 0 (by decide) ?_
        refine lv_if_eq (tgt := 202) hx hb dX13_count_193 (by decide) (fun _ => ?_) (fun z => absurd (by decide) z)
        refine lv_iconst (v := 0) hx hb dX13_count_202 (by decide) ?_
        refine lv_ior hx hb dX13_count_203 ?_
        refine jt_i 0 (by decide) ?_
        refine lv_istore_n (lv' := [(2, .int 0), (3, .int 0), (0, .ref (ad 0)), (1, .int p1)]) hx hb dX13_count_204 rfl hl (by decide) rfl (fun ls hl => ?_)
        refine lv_iinc (v := 1) (lv' := [(3, .int 1), (2, .int 0), (0, .ref (ad 0)), (1, .int p1)]) hx hb dX13_count_205 hl (k := 1) rfl (by decide) (by decide) rfl (fun ls hl => ?_)
        refine lv_goto (tgt := 180) hx hb dX13_count_208 (by decide) ?_
        refine lv_iload_n hx hb dX13_count_180 rfl (lv_at hl 0 rfl) ?_
        refine lv_bipush (v := 6) hx hb dX13_count_181 (by decide) ?_
        refine lv_icmp_ge (tgt := 211) hx hb dX13_count_183 (by decide) (fun z => absurd z (by decide)) (fun _ => ?_)
        refine lv_iload_n hx hb dX13_count_186 rfl (lv_at hl 1 rfl) ?_
        refine lv_aload_n hx hb dX13_count_187 rfl (lv_at hl 2 rfl) ?_
        refine va_get (D := (dC, dI)) (ci := 13) (v := .ref (ad 20)) (C := RX13) (T := TX13) (N := 104) hx hb hts (jh hin_RX13) hown hK hP 0 rfl rfl 32 (by decide) (hts (.fieldLink RX13 68 "BookOfAllModel" "isSet" "[Z") (jm m_22)) (fun _ h9 => h9) rfl dX13_count_188 ?_
        refine lv_iload_n hx hb dX13_count_191 rfl (lv_at hl 0 rfl) ?_
        refine va_zald hx hb hK hP 20 19 rfl rfl (vp_in_nI (n := 1) (by decide) (by decide)) dX13_count_192 ?_
        refine jt_i 0 (by decide) ?_
        refine lv_if_eq (tgt := 202) hx hb dX13_count_193 (by decide) (fun _ => ?_) (fun z => absurd (by decide) z)
        refine lv_iconst (v := 0) hx hb dX13_count_202 (by decide) ?_
        refine lv_ior hx hb dX13_count_203 ?_
        refine jt_i 0 (by decide) ?_
        refine lv_istore_n (lv' := [(2, .int 0), (3, .int 1), (0, .ref (ad 0)), (1, .int p1)]) hx hb dX13_count_204 rfl hl (by decide) rfl (fun ls hl => ?_)
        refine lv_iinc (v := 2) (lv' := [(3, .int 2), (2, .int 0), (0, .ref (ad 0)), (1, .int p1)]) hx hb dX13_count_205 hl (k := 1) rfl (by decide) (by decide) rfl (fun ls hl => ?_)
        refine lv_goto (tgt := 180) hx hb dX13_count_208 (by decide) ?_
        refine lv_iload_n hx hb dX13_count_180 rfl (lv_at hl 0 rfl) ?_
        refine lv_bipush (v := 6) hx hb dX13_count_181 (by decide) ?_
        refine lv_icmp_ge (tgt := 211) hx hb dX13_count_183 (by decide) (fun z => absurd z (by decide)) (fun _ => ?_)
        refine lv_iload_n hx hb dX13_count_186 rfl (lv_at hl 1 rfl) ?_
        refine lv_aload_n hx hb dX13_count_187 rfl (lv_at hl 2 rfl) ?_
        refine va_get (D := (dC, dI)) (ci := 13) (v := .ref (ad 20)) (C := RX13) (T := TX13) (N := 104) hx hb hts (jh hin_RX13) hown hK hP 0 rfl rfl 32 (by decide) (hts (.fieldLink RX13 68 "BookOfAllModel" "isSet" "[Z") (jm m_22)) (fun _ h9 => h9) rfl dX13_count_188 ?_
        refine lv_iload_n hx hb dX13_count_191 rfl (lv_at hl 0 rfl) ?_
        refine va_zald hx hb hK hP 20 19 rfl rfl (vp_in_nI (n := 2) (by decide) (by decide)) dX13_count_192 ?_
        refine jt_i 0 (by decide) ?_
        refine lv_if_eq (tgt := 202) hx hb dX13_count_193 (by decide) (fun _ => ?_) (fun z => absurd (by decide) z)
        refine lv_iconst (v := 0) hx hb dX13_count_202 (by decide) ?_
        refine lv_ior hx hb dX13_count_203 ?_
        refine jt_i 0 (by decide) ?_
        refine lv_istore_n (lv' := [(2, .int 0), (3, .int 2), (0, .ref (ad 0)), (1, .int p1)]) hx hb dX13_count_204 rfl hl (by decide) rfl (fun ls hl => ?_)
        refine lv_iinc (v := 3) (lv' := [(3, .int 3), (2, .int 0), (0, .ref (ad 0)), (1, .int p1)]) hx hb dX13_count_205 hl (k := 1) rfl (by decide) (by decide) rfl (fun ls hl => ?_)
        refine lv_goto (tgt := 180) hx hb dX13_count_208 (by decide) ?_
        refine lv_iload_n hx hb dX13_count_180 rfl (lv_at hl 0 rfl) ?_
        refine lv_bipush (v := 6) hx hb dX13_count_181 (by decide) ?_
        refine lv_icmp_ge (tgt := 211) hx hb dX13_count_183 (by decide) (fun z => absurd z (by decide)) (fun _ => ?_)
        refine lv_iload_n hx hb dX13_count_186 rfl (lv_at hl 1 rfl) ?_
        refine lv_aload_n hx hb dX13_count_187 rfl (lv_at hl 2 rfl) ?_
        refine va_get (D := (dC, dI)) (ci := 13) (v := .ref (ad 20)) (C := RX13) (T := TX13) (N := 104) hx hb hts (jh hin_RX13) hown hK hP 0 rfl rfl 32 (by decide) (hts (.fieldLink RX13 68 "BookOfAllModel" "isSet" "[Z") (jm m_22)) (fun _ h9 => h9) rfl dX13_count_188 ?_
        refine lv_iload_n hx hb dX13_count_191 rfl (lv_at hl 0 rfl) ?_
        refine va_zald hx hb hK hP 20 19 rfl rfl (vp_in_nI (n := 3) (by decide) (by decide)) dX13_count_192 ?_
        refine jt_i 0 (by decide) ?_
        refine lv_if_eq (tgt := 202) hx hb dX13_count_193 (by decide) (fun _ => ?_) (fun z => absurd (by decide) z)
        refine lv_iconst (v := 0) hx hb dX13_count_202 (by decide) ?_
        refine lv_ior hx hb dX13_count_203 ?_
        refine jt_i 0 (by decide) ?_
        refine lv_istore_n (lv' := [(2, .int 0), (3, .int 3), (0, .ref (ad 0)), (1, .int p1)]) hx hb dX13_count_204 rfl hl (by decide) rfl (fun ls hl => ?_)
        refine lv_iinc (v := 4) (lv' := [(3, .int 4), (2, .int 0), (0, .ref (ad 0)), (1, .int p1)]) hx hb dX13_count_205 hl (k := 1) rfl (by decide) (by decide) rfl (fun ls hl => ?_)
        refine lv_goto (tgt := 180) hx hb dX13_count_208 (by decide) ?_
        refine lv_iload_n hx hb dX13_count_180 rfl (lv_at hl 0 rfl) ?_
        refine lv_bipush (v := 6) hx hb dX13_count_181 (by decide) ?_
        refine lv_icmp_ge (tgt := 211) hx hb dX13_count_183 (by decide) (fun z => absurd z (by decide)) (fun _ => ?_)
        refine lv_iload_n hx hb dX13_count_186 rfl (lv_at hl 1 rfl) ?_
        refine lv_aload_n hx hb dX13_count_187 rfl (lv_at hl 2 rfl) ?_
        refine va_get (D := (dC, dI)) (ci := 13) (v := .ref (ad 20)) (C := RX13) (T := TX13) (N := 104) hx hb hts (jh hin_RX13) hown hK hP 0 rfl rfl 32 (by decide) (hts (.fieldLink RX13 68 "BookOfAllModel" "isSet" "[Z") (jm m_22)) (fun _ h9 => h9) rfl dX13_count_188 ?_
        refine lv_iload_n hx hb dX13_count_191 rfl (lv_at hl 0 rfl) ?_
        refine va_zald hx hb hK hP 20 19 rfl rfl (vp_in_nI (n := 4) (by decide) (by decide)) dX13_count_192 ?_
        refine jt_i 0 (by decide) ?_
        refine lv_if_eq (tgt := 202) hx hb dX13_count_193 (by decide) (fun _ => ?_) (fun z => absurd (by decide) z)
        refine lv_iconst (v := 0) hx hb dX13_count_202 (by decide) ?_
        refine lv_ior hx hb dX13_count_203 ?_
        refine jt_i 0 (by decide) ?_
        refine lv_istore_n (lv' := [(2, .int 0), (3, .int 4), (0, .ref (ad 0)), (1, .int p1)]) hx hb dX13_count_204 rfl hl (by decide) rfl (fun ls hl => ?_)
        refine lv_iinc (v := 5) (lv' := [(3, .int 5), (2, .int 0), (0, .ref (ad 0)), (1, .int p1)]) hx hb dX13_count_205 hl (k := 1) rfl (by decide) (by decide) rfl (fun ls hl => ?_)
        refine lv_goto (tgt := 180) hx hb dX13_count_208 (by decide) ?_
        refine lv_iload_n hx hb dX13_count_180 rfl (lv_at hl 0 rfl) ?_
        refine lv_bipush (v := 6) hx hb dX13_count_181 (by decide) ?_
        refine lv_icmp_ge (tgt := 211) hx hb dX13_count_183 (by decide) (fun z => absurd z (by decide)) (fun _ => ?_)
        refine lv_iload_n hx hb dX13_count_186 rfl (lv_at hl 1 rfl) ?_
        refine lv_aload_n hx hb dX13_count_187 rfl (lv_at hl 2 rfl) ?_
        refine va_get (D := (dC, dI)) (ci := 13) (v := .ref (ad 20)) (C := RX13) (T := TX13) (N := 104) hx hb hts (jh hin_RX13) hown hK hP 0 rfl rfl 32 (by decide) (hts (.fieldLink RX13 68 "BookOfAllModel" "isSet" "[Z") (jm m_22)) (fun _ h9 => h9) rfl dX13_count_188 ?_
        refine lv_iload_n hx hb dX13_count_191 rfl (lv_at hl 0 rfl) ?_
        refine va_zald hx hb hK hP 20 19 rfl rfl (vp_in_nI (n := 5) (by decide) (by decide)) dX13_count_192 ?_
        refine jt_i 0 (by decide) ?_
        refine lv_if_eq (tgt := 202) hx hb dX13_count_193 (by decide) (fun _ => ?_) (fun z => absurd (by decide) z)
        refine lv_iconst (v := 0) hx hb dX13_count_202 (by decide) ?_
        refine lv_ior hx hb dX13_count_203 ?_
        refine jt_i 0 (by decide) ?_
        refine lv_istore_n (lv' := [(2, .int 0), (3, .int 5), (0, .ref (ad 0)), (1, .int p1)]) hx hb dX13_count_204 rfl hl (by decide) rfl (fun ls hl => ?_)
        refine lv_iinc (v := 6) (lv' := [(3, .int 6), (2, .int 0), (0, .ref (ad 0)), (1, .int p1)]) hx hb dX13_count_205 hl (k := 1) rfl (by decide) (by decide) rfl (fun ls hl => ?_)
        refine lv_goto (tgt := 180) hx hb dX13_count_208 (by decide) ?_
        refine lv_iload_n hx hb dX13_count_180 rfl (lv_at hl 0 rfl) ?_
        refine lv_bipush (v := 6) hx hb dX13_count_181 (by decide) ?_
        refine lv_icmp_ge (tgt := 211) hx hb dX13_count_183 (by decide) (fun _ => ?_) (fun z => absurd (by decide) z)
        refine lv_iload_n hx hb dX13_count_211 rfl (lv_at hl 1 rfl) ?_
        exact W.iret (v := 0) hx hb hr (fun t ht hW => ⟨⟨0, (), rfl, (s_tX13_count_17 (p1 := p1) c_3 c_9 c_11), trivial⟩, hS.F ht⟩) hS.2.2 dX13_count_212
      · refine jtab_in (v := 7) (off := 116) (tgt := 213) hx hb dX13_count_97 c_11 (by decide) (by decide) (by decide) (by decide) ?_
        refine lv_aload_n hx hb dX13_count_213 rfl (lv_at hl 1 rfl) ?_
        refine va_get (D := (dC, dI)) (ci := 13) (v := .int 0) (C := RX13) (T := TX13) (N := 104) hx hb hts (jh hin_RX13) hown hK hP 0 rfl rfl 1 (by decide) (hts (.fieldLink RX13 252 "BookOfAllModel" "size" "I") (jm m_492)) (fun _ h9 => h9) rfl dX13_count_214 ?_
        exact W.iret (v := 0) hx hb hr (fun t ht hW => ⟨⟨0, (), rfl, (s_tX13_count_18 (p1 := p1) c_3 c_9 c_11), trivial⟩, hS.F ht⟩) hS.2.2 dX13_count_217
      · refine jtab_in (v := 8) (off := 121) (tgt := 218) hx hb dX13_count_97 c_11 (by decide) (by decide) (by decide) (by decide) ?_
        refine lv_iconst (v := 0) hx hb dX13_count_218 (by decide) ?_
        refine lv_istore_n (lv' := [(3, .int 0), (2, .int 0), (0, .ref (ad 0)), (1, .int p1)]) hx hb dX13_count_219 rfl hl (by decide) rfl (fun ls hl => ?_)
        refine lv_iload_n hx hb dX13_count_220 rfl (lv_at hl 0 rfl) ?_
        refine lv_aload_n hx hb dX13_count_221 rfl (lv_at hl 2 rfl) ?_
        refine va_get (D := (dC, dI)) (ci := 13) (v := .int 0) (C := RX13) (T := TX13) (N := 104) hx hb hts (jh hin_RX13) hown hK hP 0 rfl rfl 56 (by decide) (hts (.fieldLink RX13 452 "BookOfAllModel" "lines" "I") (jm m_574)) (fun _ h9 => h9) rfl dX13_count_222 ?_
        refine lv_icmp_ge (tgt := 243) hx hb dX13_count_225 (by decide) (fun _ => ?_) (fun z => absurd (by decide) z)
        refine lv_iload_n hx hb dX13_count_243 rfl (lv_at hl 1 rfl) ?_
        exact W.iret (v := 0) hx hb hr (fun t ht hW => ⟨⟨0, (), rfl, (s_tX13_count_19 (p1 := p1) c_3 c_9 c_11), trivial⟩, hS.F ht⟩) hS.2.2 dX13_count_244
    · have e_10_1 := e_10_1.symm
      subst e_10_1
      refine lv_if_eq (tgt := 96) hx hb dX13_count_75 (by decide) (fun _ => ?_) (fun z => absurd (by decide) z)
      refine lv_iload_n hx hb dX13_count_96 rfl (lv_at hl 2 rfl) ?_
      rcases jsw_0_8 p1 with c_12 | c_12 | c_12 | c_12 | c_12 | c_12 | c_12 | c_12 | c_12 | c_12
      · refine lv_tableOut (tgt := 245) hx hb dX13_count_97 c_12 (by decide) ?_
        refine lv_iconst (v := (-1)) hx hb dX13_count_245 (by decide) ?_
        exact W.iret (v := (-1)) hx hb hr (fun t ht hW => ⟨⟨(-1), (), rfl, (s_tX13_count_20 (p1 := p1) c_3 c_10 c_12), trivial⟩, hS.F ht⟩) hS.2.2 dX13_count_246
      · refine jtab_in (v := 0) (off := 51) (tgt := 148) hx hb dX13_count_97 c_12 (by decide) (by decide) (by decide) (by decide) ?_
        refine lv_aload_n hx hb dX13_count_148 rfl (lv_at hl 1 rfl) ?_
        refine va_get (D := (dC, dI)) (ci := 13) (v := .int 0) (C := RX13) (T := TX13) (N := 104) hx hb hts (jh hin_RX13) hown hK hP 0 rfl rfl 30 (by decide) (hts (.fieldLink RX13 383 "BookOfAllModel" "now" "I") (jm m_525)) (fun _ h9 => h9) rfl dX13_count_149 ?_
        exact W.iret (v := 0) hx hb hr (fun t ht hW => ⟨⟨0, (), rfl, (s_tX13_count_21 (p1 := p1) c_3 c_10 c_12), trivial⟩, hS.F ht⟩) hS.2.2 dX13_count_152
      · refine jtab_in (v := 1) (off := 56) (tgt := 153) hx hb dX13_count_97 c_12 (by decide) (by decide) (by decide) (by decide) ?_
        refine lv_aload_n hx hb dX13_count_153 rfl (lv_at hl 1 rfl) ?_
        refine va_get (D := (dC, dI)) (ci := 13) (v := .int 0) (C := RX13) (T := TX13) (N := 104) hx hb hts (jh hin_RX13) hown hK hP 0 rfl rfl 37 (by decide) (hts (.fieldLink RX13 418 "BookOfAllModel" "entries" "I") (jm m_535)) (fun _ h9 => h9) rfl dX13_count_154 ?_
        exact W.iret (v := 0) hx hb hr (fun t ht hW => ⟨⟨0, (), rfl, (s_tX13_count_22 (p1 := p1) c_3 c_10 c_12), trivial⟩, hS.F ht⟩) hS.2.2 dX13_count_157
      · refine jtab_in (v := 2) (off := 61) (tgt := 158) hx hb dX13_count_97 c_12 (by decide) (by decide) (by decide) (by decide) ?_
        refine lv_aload_n hx hb dX13_count_158 rfl (lv_at hl 1 rfl) ?_
        refine va_get (D := (dC, dI)) (ci := 13) (v := .int 0) (C := RX13) (T := TX13) (N := 104) hx hb hts (jh hin_RX13) hown hK hP 0 rfl rfl 50 (by decide) (hts (.fieldLink RX13 445 "BookOfAllModel" "hands" "I") (jm m_556)) (fun _ h9 => h9) rfl dX13_count_159 ?_
        exact W.iret (v := 0) hx hb hr (fun t ht hW => ⟨⟨0, (), rfl, (s_tX13_count_23 (p1 := p1) c_3 c_10 c_12), trivial⟩, hS.F ht⟩) hS.2.2 dX13_count_162
      · refine jtab_in (v := 3) (off := 66) (tgt := 163) hx hb dX13_count_97 c_12 (by decide) (by decide) (by decide) (by decide) ?_
        refine lv_aload_n hx hb dX13_count_163 rfl (lv_at hl 1 rfl) ?_
        refine va_get (D := (dC, dI)) (ci := 13) (v := .int 0) (C := RX13) (T := TX13) (N := 104) hx hb hts (jh hin_RX13) hown hK hP 0 rfl rfl 56 (by decide) (hts (.fieldLink RX13 452 "BookOfAllModel" "lines" "I") (jm m_574)) (fun _ h9 => h9) rfl dX13_count_164 ?_
        exact W.iret (v := 0) hx hb hr (fun t ht hW => ⟨⟨0, (), rfl, (s_tX13_count_24 (p1 := p1) c_3 c_10 c_12), trivial⟩, hS.F ht⟩) hS.2.2 dX13_count_167
      · refine jtab_in (v := 4) (off := 71) (tgt := 168) hx hb dX13_count_97 c_12 (by decide) (by decide) (by decide) (by decide) ?_
        refine lv_aload_n hx hb dX13_count_168 rfl (lv_at hl 1 rfl) ?_
        refine va_get (D := (dC, dI)) (ci := 13) (v := .int 0) (C := RX13) (T := TX13) (N := 104) hx hb hts (jh hin_RX13) hown hK hP 0 rfl rfl 18 (by decide) (hts (.fieldLink RX13 374 "BookOfAllModel" "sheets" "I") (jm m_524)) (fun _ h9 => h9) rfl dX13_count_169 ?_
        exact W.iret (v := 0) hx hb hr (fun t ht hW => ⟨⟨0, (), rfl, (s_tX13_count_25 (p1 := p1) c_3 c_10 c_12), trivial⟩, hS.F ht⟩) hS.2.2 dX13_count_172
      · refine jtab_in (v := 5) (off := 76) (tgt := 173) hx hb dX13_count_97 c_12 (by decide) (by decide) (by decide) (by decide) ?_
        refine lv_aload_n hx hb dX13_count_173 rfl (lv_at hl 1 rfl) ?_
        refine va_get (D := (dC, dI)) (ci := 13) (v := .int 0) (C := RX13) (T := TX13) (N := 104) hx hb hts (jh hin_RX13) hown hK hP 0 rfl rfl 71 (by decide) (hts (.fieldLink RX13 488 "BookOfAllModel" "errata" "I") (jm m_579)) (fun _ h9 => h9) rfl dX13_count_174 ?_
        exact W.iret (v := 0) hx hb hr (fun t ht hW => ⟨⟨0, (), rfl, (s_tX13_count_26 (p1 := p1) c_3 c_10 c_12), trivial⟩, hS.F ht⟩) hS.2.2 dX13_count_177
      · refine jtab_in (v := 6) (off := 81) (tgt := 178) hx hb dX13_count_97 c_12 (by decide) (by decide) (by decide) (by decide) ?_
        refine lv_iconst (v := 0) hx hb dX13_count_178 (by decide) ?_
        refine lv_istore_n (lv' := [(3, .int 0), (2, .int 0), (0, .ref (ad 0)), (1, .int p1)]) hx hb dX13_count_179 rfl hl (by decide) rfl (fun ls hl => ?_)
        refine lv_iload_n hx hb dX13_count_180 rfl (lv_at hl 0 rfl) ?_
        refine lv_bipush (v := 6) hx hb dX13_count_181 (by decide) ?_
        refine lv_icmp_ge (tgt := 211) hx hb dX13_count_183 (by decide) (fun z => absurd z (by decide)) (fun _ => ?_)
        refine lv_iload_n hx hb dX13_count_186 rfl (lv_at hl 1 rfl) ?_
        refine lv_aload_n hx hb dX13_count_187 rfl (lv_at hl 2 rfl) ?_
        refine va_get (D := (dC, dI)) (ci := 13) (v := .ref (ad 20)) (C := RX13) (T := TX13) (N := 104) hx hb hts (jh hin_RX13) hown hK hP 0 rfl rfl 32 (by decide) (hts (.fieldLink RX13 68 "BookOfAllModel" "isSet" "[Z") (jm m_22)) (fun _ h9 => h9) rfl dX13_count_188 ?_
        refine lv_iload_n hx hb dX13_count_191 rfl (lv_at hl 0 rfl) ?_
        refine va_zald hx hb hK hP 20 19 rfl rfl (vp_in_nI (n := 0) (by decide) (by decide)) dX13_count_192 ?_
        refine jt_i 0 (by decide) ?_
        refine lv_if_eq (tgt := 202) hx hb dX13_count_193 (by decide) (fun _ => ?_) (fun z => absurd (by decide) z)
        refine lv_iconst (v := 0) hx hb dX13_count_202 (by decide) ?_
        refine lv_ior hx hb dX13_count_203 ?_
        refine jt_i 0 (by decide) ?_
        refine lv_istore_n (lv' := [(2, .int 0), (3, .int 0), (0, .ref (ad 0)), (1, .int p1)]) hx hb dX13_count_204 rfl hl (by decide) rfl (fun ls hl => ?_)
        refine lv_iinc (v := 1) (lv' := [(3, .int 1), (2, .int 0), (0, .ref (ad 0)), (1, .int p1)]) hx hb dX13_count_205 hl (k := 1) rfl (by decide) (by decide) rfl (fun ls hl => ?_)
        refine lv_goto (tgt := 180) hx hb dX13_count_208 (by decide) ?_
        refine lv_iload_n hx hb dX13_count_180 rfl (lv_at hl 0 rfl) ?_
        refine lv_bipush (v := 6) hx hb dX13_count_181 (by decide) ?_
        refine lv_icmp_ge (tgt := 211) hx hb dX13_count_183 (by decide) (fun z => absurd z (by decide)) (fun _ => ?_)
        refine lv_iload_n hx hb dX13_count_186 rfl (lv_at hl 1 rfl) ?_
        refine lv_aload_n hx hb dX13_count_187 rfl (lv_at hl 2 rfl) ?_
        refine va_get (D := (dC, dI)) (ci := 13) (v := .ref (ad 20)) (C := RX13) (T := TX13) (N := 104) hx hb hts (jh hin_RX13) hown hK hP 0 rfl rfl 32 (by decide) (hts (.fieldLink RX13 68 "BookOfAllModel" "isSet" "[Z") (jm m_22)) (fun _ h9 => h9) rfl dX13_count_188 ?_
        refine lv_iload_n hx hb dX13_count_191 rfl (lv_at hl 0 rfl) ?_
        refine va_zald hx hb hK hP 20 19 rfl rfl (vp_in_nI (n := 1) (by decide) (by decide)) dX13_count_192 ?_
        refine jt_i 0 (by decide) ?_
        refine lv_if_eq (tgt := 202) hx hb dX13_count_193 (by decide) (fun _ => ?_) (fun z => absurd (by decide) z)
        refine lv_iconst (v := 0) hx hb dX13_count_202 (by decide) ?_
        refine lv_ior hx hb dX13_count_203 ?_
        refine jt_i 0 (by decide) ?_
        refine lv_istore_n (lv' := [(2, .int 0), (3, .int 1), (0, .ref (ad 0)), (1, .int p1)]) hx hb dX13_count_204 rfl hl (by decide) rfl (fun ls hl => ?_)
        refine lv_iinc (v := 2) (lv' := [(3, .int 2), (2, .int 0), (0, .ref (ad 0)), (1, .int p1)]) hx hb dX13_count_205 hl (k := 1) rfl (by decide) (by decide) rfl (fun ls hl => ?_)
        refine lv_goto (tgt := 180) hx hb dX13_count_208 (by decide) ?_
        refine lv_iload_n hx hb dX13_count_180 rfl (lv_at hl 0 rfl) ?_
        refine lv_bipush (v := 6) hx hb dX13_count_181 (by decide) ?_
        refine lv_icmp_ge (tgt := 211) hx hb dX13_count_183 (by decide) (fun z => absurd z (by decide)) (fun _ => ?_)
        refine lv_iload_n hx hb dX13_count_186 rfl (lv_at hl 1 rfl) ?_
        refine lv_aload_n hx hb dX13_count_187 rfl (lv_at hl 2 rfl) ?_
        refine va_get (D := (dC, dI)) (ci := 13) (v := .ref (ad 20)) (C := RX13) (T := TX13) (N := 104) hx hb hts (jh hin_RX13) hown hK hP 0 rfl rfl 32 (by decide) (hts (.fieldLink RX13 68 "BookOfAllModel" "isSet" "[Z") (jm m_22)) (fun _ h9 => h9) rfl dX13_count_188 ?_
        refine lv_iload_n hx hb dX13_count_191 rfl (lv_at hl 0 rfl) ?_
        refine va_zald hx hb hK hP 20 19 rfl rfl (vp_in_nI (n := 2) (by decide) (by decide)) dX13_count_192 ?_
        refine jt_i 0 (by decide) ?_
        refine lv_if_eq (tgt := 202) hx hb dX13_count_193 (by decide) (fun _ => ?_) (fun z => absurd (by decide) z)
        refine lv_iconst (v := 0) hx hb dX13_count_202 (by decide) ?_
        refine lv_ior hx hb dX13_count_203 ?_
        refine jt_i 0 (by decide) ?_
        refine lv_istore_n (lv' := [(2, .int 0), (3, .int 2), (0, .ref (ad 0)), (1, .int p1)]) hx hb dX13_count_204 rfl hl (by decide) rfl (fun ls hl => ?_)
        refine lv_iinc (v := 3) (lv' := [(3, .int 3), (2, .int 0), (0, .ref (ad 0)), (1, .int p1)]) hx hb dX13_count_205 hl (k := 1) rfl (by decide) (by decide) rfl (fun ls hl => ?_)
        refine lv_goto (tgt := 180) hx hb dX13_count_208 (by decide) ?_
        refine lv_iload_n hx hb dX13_count_180 rfl (lv_at hl 0 rfl) ?_
        refine lv_bipush (v := 6) hx hb dX13_count_181 (by decide) ?_
        refine lv_icmp_ge (tgt := 211) hx hb dX13_count_183 (by decide) (fun z => absurd z (by decide)) (fun _ => ?_)
        refine lv_iload_n hx hb dX13_count_186 rfl (lv_at hl 1 rfl) ?_
        refine lv_aload_n hx hb dX13_count_187 rfl (lv_at hl 2 rfl) ?_
        refine va_get (D := (dC, dI)) (ci := 13) (v := .ref (ad 20)) (C := RX13) (T := TX13) (N := 104) hx hb hts (jh hin_RX13) hown hK hP 0 rfl rfl 32 (by decide) (hts (.fieldLink RX13 68 "BookOfAllModel" "isSet" "[Z") (jm m_22)) (fun _ h9 => h9) rfl dX13_count_188 ?_
        refine lv_iload_n hx hb dX13_count_191 rfl (lv_at hl 0 rfl) ?_
        refine va_zald hx hb hK hP 20 19 rfl rfl (vp_in_nI (n := 3) (by decide) (by decide)) dX13_count_192 ?_
        refine jt_i 0 (by decide) ?_
        refine lv_if_eq (tgt := 202) hx hb dX13_count_193 (by decide) (fun _ => ?_) (fun z => absurd (by decide) z)
        refine lv_iconst (v := 0) hx hb dX13_count_202 (by decide) ?_
        refine lv_ior hx hb dX13_count_203 ?_
        refine jt_i 0 (by decide) ?_
        refine lv_istore_n (lv' := [(2, .int 0), (3, .int 3), (0, .ref (ad 0)), (1, .int p1)]) hx hb dX13_count_204 rfl hl (by decide) rfl (fun ls hl => ?_)
        refine lv_iinc (v := 4) (lv' := [(3, .int 4), (2, .int 0), (0, .ref (ad 0)), (1, .int p1)]) hx hb dX13_count_205 hl (k := 1) rfl (by decide) (by decide) rfl (fun ls hl => ?_)
        refine lv_goto (tgt := 180) hx hb dX13_count_208 (by decide) ?_
        refine lv_iload_n hx hb dX13_count_180 rfl (lv_at hl 0 rfl) ?_
        refine lv_bipush (v := 6) hx hb dX13_count_181 (by decide) ?_
        refine lv_icmp_ge (tgt := 211) hx hb dX13_count_183 (by decide) (fun z => absurd z (by decide)) (fun _ => ?_)
        refine lv_iload_n hx hb dX13_count_186 rfl (lv_at hl 1 rfl) ?_
        refine lv_aload_n hx hb dX13_count_187 rfl (lv_at hl 2 rfl) ?_
        refine va_get (D := (dC, dI)) (ci := 13) (v := .ref (ad 20)) (C := RX13) (T := TX13) (N := 104) hx hb hts (jh hin_RX13) hown hK hP 0 rfl rfl 32 (by decide) (hts (.fieldLink RX13 68 "BookOfAllModel" "isSet" "[Z") (jm m_22)) (fun _ h9 => h9) rfl dX13_count_188 ?_
        refine lv_iload_n hx hb dX13_count_191 rfl (lv_at hl 0 rfl) ?_
        refine va_zald hx hb hK hP 20 19 rfl rfl (vp_in_nI (n := 4) (by decide) (by decide)) dX13_count_192 ?_
        refine jt_i 0 (by decide) ?_
        refine lv_if_eq (tgt := 202) hx hb dX13_count_193 (by decide) (fun _ => ?_) (fun z => absurd (by decide) z)
        refine lv_iconst (v := 0) hx hb dX13_count_202 (by decide) ?_
        refine lv_ior hx hb dX13_count_203 ?_
        refine jt_i 0 (by decide) ?_
        refine lv_istore_n (lv' := [(2, .int 0), (3, .int 4), (0, .ref (ad 0)), (1, .int p1)]) hx hb dX13_count_204 rfl hl (by decide) rfl (fun ls hl => ?_)
        refine lv_iinc (v := 5) (lv' := [(3, .int 5), (2, .int 0), (0, .ref (ad 0)), (1, .int p1)]) hx hb dX13_count_205 hl (k := 1) rfl (by decide) (by decide) rfl (fun ls hl => ?_)
        refine lv_goto (tgt := 180) hx hb dX13_count_208 (by decide) ?_
        refine lv_iload_n hx hb dX13_count_180 rfl (lv_at hl 0 rfl) ?_
        refine lv_bipush (v := 6) hx hb dX13_count_181 (by decide) ?_
        refine lv_icmp_ge (tgt := 211) hx hb dX13_count_183 (by decide) (fun z => absurd z (by decide)) (fun _ => ?_)
        refine lv_iload_n hx hb dX13_count_186 rfl (lv_at hl 1 rfl) ?_
        refine lv_aload_n hx hb dX13_count_187 rfl (lv_at hl 2 rfl) ?_
        refine va_get (D := (dC, dI)) (ci := 13) (v := .ref (ad 20)) (C := RX13) (T := TX13) (N := 104) hx hb hts (jh hin_RX13) hown hK hP 0 rfl rfl 32 (by decide) (hts (.fieldLink RX13 68 "BookOfAllModel" "isSet" "[Z") (jm m_22)) (fun _ h9 => h9) rfl dX13_count_188 ?_
        refine lv_iload_n hx hb dX13_count_191 rfl (lv_at hl 0 rfl) ?_
        refine va_zald hx hb hK hP 20 19 rfl rfl (vp_in_nI (n := 5) (by decide) (by decide)) dX13_count_192 ?_
        refine jt_i 0 (by decide) ?_
        refine lv_if_eq (tgt := 202) hx hb dX13_count_193 (by decide) (fun _ => ?_) (fun z => absurd (by decide) z)
        refine lv_iconst (v := 0) hx hb dX13_count_202 (by decide) ?_
        refine lv_ior hx hb dX13_count_203 ?_
        refine jt_i 0 (by decide) ?_
        refine lv_istore_n (lv' := [(2, .int 0), (3, .int 5), (0, .ref (ad 0)), (1, .int p1)]) hx hb dX13_count_204 rfl hl (by decide) rfl (fun ls hl => ?_)
        refine lv_iinc (v := 6) (lv' := [(3, .int 6), (2, .int 0), (0, .ref (ad 0)), (1, .int p1)]) hx hb dX13_count_205 hl (k := 1) rfl (by decide) (by decide) rfl (fun ls hl => ?_)
        refine lv_goto (tgt := 180) hx hb dX13_count_208 (by decide) ?_
        refine lv_iload_n hx hb dX13_count_180 rfl (lv_at hl 0 rfl) ?_
        refine lv_bipush (v := 6) hx hb dX13_count_181 (by decide) ?_
        refine lv_icmp_ge (tgt := 211) hx hb dX13_count_183 (by decide) (fun _ => ?_) (fun z => absurd (by decide) z)
        refine lv_iload_n hx hb dX13_count_211 rfl (lv_at hl 1 rfl) ?_
        exact W.iret (v := 0) hx hb hr (fun t ht hW => ⟨⟨0, (), rfl, (s_tX13_count_27 (p1 := p1) c_3 c_10 c_12), trivial⟩, hS.F ht⟩) hS.2.2 dX13_count_212
      · refine jtab_in (v := 7) (off := 116) (tgt := 213) hx hb dX13_count_97 c_12 (by decide) (by decide) (by decide) (by decide) ?_
        refine lv_aload_n hx hb dX13_count_213 rfl (lv_at hl 1 rfl) ?_
        refine va_get (D := (dC, dI)) (ci := 13) (v := .int 0) (C := RX13) (T := TX13) (N := 104) hx hb hts (jh hin_RX13) hown hK hP 0 rfl rfl 1 (by decide) (hts (.fieldLink RX13 252 "BookOfAllModel" "size" "I") (jm m_492)) (fun _ h9 => h9) rfl dX13_count_214 ?_
        exact W.iret (v := 0) hx hb hr (fun t ht hW => ⟨⟨0, (), rfl, (s_tX13_count_28 (p1 := p1) c_3 c_10 c_12), trivial⟩, hS.F ht⟩) hS.2.2 dX13_count_217
      · refine jtab_in (v := 8) (off := 121) (tgt := 218) hx hb dX13_count_97 c_12 (by decide) (by decide) (by decide) (by decide) ?_
        refine lv_iconst (v := 0) hx hb dX13_count_218 (by decide) ?_
        refine lv_istore_n (lv' := [(3, .int 0), (2, .int 0), (0, .ref (ad 0)), (1, .int p1)]) hx hb dX13_count_219 rfl hl (by decide) rfl (fun ls hl => ?_)
        refine lv_iload_n hx hb dX13_count_220 rfl (lv_at hl 0 rfl) ?_
        refine lv_aload_n hx hb dX13_count_221 rfl (lv_at hl 2 rfl) ?_
        refine va_get (D := (dC, dI)) (ci := 13) (v := .int 0) (C := RX13) (T := TX13) (N := 104) hx hb hts (jh hin_RX13) hown hK hP 0 rfl rfl 56 (by decide) (hts (.fieldLink RX13 452 "BookOfAllModel" "lines" "I") (jm m_574)) (fun _ h9 => h9) rfl dX13_count_222 ?_
        refine lv_icmp_ge (tgt := 243) hx hb dX13_count_225 (by decide) (fun _ => ?_) (fun z => absurd (by decide) z)
        refine lv_iload_n hx hb dX13_count_243 rfl (lv_at hl 1 rfl) ?_
        exact W.iret (v := 0) hx hb hr (fun t ht hW => ⟨⟨0, (), rfl, (s_tX13_count_29 (p1 := p1) c_3 c_10 c_12), trivial⟩, hS.F ht⟩) hS.2.2 dX13_count_244
