set_option maxHeartbeats 500000 in
set_option maxRecDepth 100000 in
theorem kX13_isVolume_1 (l : Launch) (dC : Nat → ClassId) (dI : Nat → Nat → Nat) (sz : Nat) (p0 : Int32) : Met l yX13_isVolume (jk yX13_isVolume cX13_isVolume 1 (some .boolean)) ({ frames := 1, cells := 0, slots := 0, locals := 22 }) (va_Pc [.int p0] (fun U => U.heap.size = sz)) (va_Qi (fun (r : Int32) (_ : Unit) => (p0 < 0 ∧ r = 0) ∨ (¬ (p0 < 0) ∧ 5 < p0 ∧ r = 0) ∨ (¬ (p0 < 0) ∧ ¬ (5 < p0) ∧ r = 1)) (fun _ _ => True) (va_A [] sz)) 0 0 (va_A [] sz) := by
  refine Met.ofW (cc := cX13_isVolume) (maxL := 1) (ret := (some .boolean)) (by decide) rfl ?_
  intro p e s m args below meth c s₁ B hml hv
  obtain ⟨rfl, hsz⟩ := hv
  have hx := B.exec
  have hb := B.bytes
  have hr := B.returns
  have hts := atoms_spec (ws := (jk yX13_isVolume cX13_isVolume 1 (some .boolean))) B.pre
  have hown : s.vm.findClass RX13 = some m.cls := findClass_of_methodNamed B.named
  have hlocks := B.notSynchronized
  subst hsz
  have hP : va_P (dC, dI) vwCl [] s.heap := fun k q h => by simp at h
  generalize hAe : (va_A [] s.heap.size) = A
  have hA : ∀ q : Nat, s.heap.size ≤ q → A q := fun q h => by rw [← hAe]; exact Or.inr h
  have hS : va_S A s.heap s.heap [] := va_S.rf
  have hl := lv_entry ([.int p0]) (n := 1) (Nat.le_of_ble_eq_true rfl)
  rw [lg_entry_eq]
  generalize (lg_sl ([.int p0]) ++ List.replicate (1 - (lg_sl ([.int p0])).length) Slot.unset).toArray = ls at hl ⊢
  have hl : lv_has ls 1 [(0, .int p0)] := hl
  refine lv_iload_n hx hb dX13_isVolume_0 rfl (lv_at hl 0 rfl) ?_
  refine lv_iconst (v := 0) hx hb dX13_isVolume_1 (by decide) ?_
  refine lv_iconst (v := 5) hx hb dX13_isVolume_2 (by decide) ?_
  refine jc_i (va_runS (As := [.int p0, .int 0, .int 5]) (rest := []) ⟨hx, hb, hml, hown, hts⟩ (kX13_in_19 l dC dI _ p0) (va_cwS 3 hts (jgoodS m_493 m_494 m_96 m_495) rfl rfl rfl (by decide +kernel) ⟨Nat.le_of_ble_eq_true rfl, Nat.le_of_ble_eq_true rfl⟩) ⟨jw_blind0, fun U hU hW => ⟨rfl, congrArg Array.size hU⟩⟩ rfl rfl hl.1 rfl (lv_room (Nat.le_of_ble_eq_true rfl)) dX13_isVolume_3 ⟨Nat.le_of_ble_eq_true rfl, Nat.le_of_ble_eq_true rfl⟩) hP hS hA (fun r_1 H locs hw_1 hP hS => ?_)
  rcases (show (p0 < 0 ∧ r_1 = 0) ∨ (¬ (p0 < 0) ∧ 5 < p0 ∧ r_1 = 0) ∨ (¬ (p0 < 0) ∧ ¬ (5 < p0) ∧ r_1 = 1) from hw_1) with ⟨c_2, e_2_0⟩ | ⟨c_3, c_4, e_4_1⟩ | ⟨c_5, c_6, e_6_2⟩
  · have e_2_0 := e_2_0.symm
    subst e_2_0
    exact W.zret (v := 0) (ty := .boolean) hx hb hr rfl (fun t ht hW => ⟨⟨0, (), rfl, (Or.inl ⟨c_2, rfl⟩), trivial⟩, hS.F ht⟩) hS.2.2 dX13_isVolume_6
  · have e_4_1 := e_4_1.symm
    subst e_4_1
    exact W.zret (v := 0) (ty := .boolean) hx hb hr rfl (fun t ht hW => ⟨⟨0, (), rfl, (Or.inr (Or.inl ⟨c_3, c_4, rfl⟩)), trivial⟩, hS.F ht⟩) hS.2.2 dX13_isVolume_6
  · have e_6_2 := e_6_2.symm
    subst e_6_2
    exact W.zret (v := 1) (ty := .boolean) hx hb hr rfl (fun t ht hW => ⟨⟨1, (), rfl, (Or.inr (Or.inr ⟨c_5, c_6, rfl⟩)), trivial⟩, hS.F ht⟩) hS.2.2 dX13_isVolume_6
set_option maxHeartbeats 500000 in
set_option maxRecDepth 100000 in
theorem kX13_orders_4 (l : Launch) (dC : Nat → ClassId) (dI : Nat → Nat → Nat) (sz : Nat) (ad : Nat → Nat) (ca : Nat → ClassId) (p1 : Int32) (fl1 : 0 ≤ p1) (fh1 : p1 ≤ 5) : Met l yX13_orders (jk yX13_orders cX13_orders 5 (some .int)) ({ frames := 0, cells := 0, slots := 0, locals := 0 }) (va_Pc [.ref (ad 0), .int p1] (jw_P (dC, dI) (mW ad ca) (mT ca) sz)) (va_Qi (fun (r : Int32) (_ : Unit) => (r = 0)) (fun _ _ => True) (va_A [] sz)) 0 0 (va_A [] sz) := by
  refine Met.ofW (cc := cX13_orders) (maxL := 5) (ret := (some .int)) (by decide) rfl ?_
  intro p e s m args below meth c s₁ B hml hv
  obtain ⟨rfl, hsz, hP, hK, hD0⟩ := hv
  have hx := B.exec
  have hb := B.bytes
  have hr := B.returns
  have hts := atoms_spec (ws := (jk yX13_orders cX13_orders 5 (some .int))) B.pre
  have hown : s.vm.findClass RX13 = some m.cls := findClass_of_methodNamed B.named
  have hlocks := B.notSynchronized
  subst hsz
  have hD := hD0
  generalize hAe : (va_A [] s.heap.size) = A
  have hA : ∀ q : Nat, s.heap.size ≤ q → A q := fun q h => by rw [← hAe]; exact Or.inr h
  have hS : va_S A s.heap s.heap [] := va_S.rf
  have hP : va_P (dC, dI) vwCl (mW ad ca) s.heap := hP
  have hl := lv_entry ([.ref (ad 0), .int p1]) (n := 5) (Nat.le_of_ble_eq_true rfl)
  rw [lg_entry_eq]
  generalize (lg_sl ([.ref (ad 0), .int p1]) ++ List.replicate (5 - (lg_sl ([.ref (ad 0), .int p1])).length) Slot.unset).toArray = ls at hl ⊢
  have hl : lv_has ls 5 [(0, .ref (ad 0)), (1, .int p1)] := hl
  refine lv_aload_n hx hb dX13_orders_0 rfl (lv_at hl 0 rfl) ?_
  refine va_get (D := (dC, dI)) (ci := 13) (v := .ref (ad 20)) (C := RX13) (T := TX13) (N := 104) hx hb hts (jh hin_RX13) hown hK hP 0 rfl rfl 32 (by decide) (hts (.fieldLink RX13 68 "BookOfAllModel" "isSet" "[Z") (jm m_22)) (fun _ h9 => h9) rfl dX13_orders_1 ?_
  refine lv_iload_n hx hb dX13_orders_4 rfl (lv_at hl 1 rfl) ?_
  refine va_zald hx hb hK hP 20 19 rfl rfl (jb_in fl1 fh1 (by decide) (by decide)) dX13_orders_5 ?_
  refine jt_i 0 rfl ?_
  refine lv_if_eq (tgt := 51) hx hb dX13_orders_6 (by decide) (fun _ => ?_) (fun z => absurd (by decide) z)
  refine lv_iconst (v := 0) hx hb dX13_orders_51 (by decide) ?_
  refine lv_istore_n (lv' := [(2, .int 0), (0, .ref (ad 0)), (1, .int p1)]) hx hb dX13_orders_52 rfl hl (by decide) rfl (fun ls hl => ?_)
  refine lv_iconst (v := 0) hx hb dX13_orders_53 (by decide) ?_
  refine lv_istore_n (lv' := [(3, .int 0), (2, .int 0), (0, .ref (ad 0)), (1, .int p1)]) hx hb dX13_orders_54 rfl hl (by decide) rfl (fun ls hl => ?_)
  refine lv_iload_n hx hb dX13_orders_55 rfl (lv_at hl 0 rfl) ?_
  refine lv_aload_n hx hb dX13_orders_56 rfl (lv_at hl 2 rfl) ?_
  refine va_get (D := (dC, dI)) (ci := 13) (v := .int 0) (C := RX13) (T := TX13) (N := 104) hx hb hts (jh hin_RX13) hown hK hP 0 rfl rfl 37 (by decide) (hts (.fieldLink RX13 418 "BookOfAllModel" "entries" "I") (jm m_535)) (fun _ h9 => h9) rfl dX13_orders_57 ?_
  refine lv_icmp_ge (tgt := 141) hx hb dX13_orders_60 (by decide) (fun _ => ?_) (fun z => absurd (by decide) z)
  refine lv_iload_n hx hb dX13_orders_141 rfl (lv_at hl 1 rfl) ?_
  exact W.iret (v := 0) hx hb hr (fun t ht hW => ⟨⟨0, (), rfl, rfl, trivial⟩, hS.F ht⟩) hS.2.2 dX13_orders_142
set_option maxHeartbeats 500000 in
set_option maxRecDepth 100000 in
theorem tX13_at (l : Launch) (dC : Nat → ClassId) (dI : Nat → Nat → Nat) (sz : Nat) (ad : Nat → Nat) (ca : Nat → ClassId) (p1 : Int32) (p2 : Int32) : Met l yX13_at (jk yX13_at cX13_at 3 (some .int)) ({ frames := 2, cells := 0, slots := 0, locals := 42 }) (va_Pc [.ref (ad 0), .int p1, .int p2] (jw_P (dC, dI) (mW ad ca) (mT ca) sz)) (va_Qi (fun (r : Int32) (_ : Unit) => (r = (-1))) (fun _ _ => True) (va_A [] sz)) 0 0 (va_A [] sz) := by
  refine Met.ofW (cc := cX13_at) (maxL := 3) (ret := (some .int)) (by decide) rfl ?_
  intro p e s m args below meth c s₁ B hml hv
  obtain ⟨rfl, hsz, hP, hK, hD0⟩ := hv
  have hx := B.exec
  have hb := B.bytes
  have hr := B.returns
  have hts := atoms_spec (ws := (jk yX13_at cX13_at 3 (some .int))) B.pre
  have hown : s.vm.findClass RX13 = some m.cls := findClass_of_methodNamed B.named
  have hlocks := B.notSynchronized
  subst hsz
  have hD := hD0
  generalize hAe : (va_A [] s.heap.size) = A
  have hA : ∀ q : Nat, s.heap.size ≤ q → A q := fun q h => by rw [← hAe]; exact Or.inr h
  have hS : va_S A s.heap s.heap [] := va_S.rf
  have hP : va_P (dC, dI) vwCl (mW ad ca) s.heap := hP
  have hl := lv_entry ([.ref (ad 0), .int p1, .int p2]) (n := 3) (Nat.le_of_ble_eq_true rfl)
  rw [lg_entry_eq]
  generalize (lg_sl ([.ref (ad 0), .int p1, .int p2]) ++ List.replicate (3 - (lg_sl ([.ref (ad 0), .int p1, .int p2])).length) Slot.unset).toArray = ls at hl ⊢
  have hl : lv_has ls 3 [(0, .ref (ad 0)), (1, .int p1), (2, .int p2)] := hl
  refine lv_iload_n hx hb dX13_at_0 rfl (lv_at hl 1 rfl) ?_
  refine jc_i (va_runS (As := [.int p1]) (rest := []) ⟨hx, hb, hml, hown, hts⟩ (kX13_isVolume_1 l dC dI _ p1) (va_cwS 1 hts (jgoodS m_548 m_549 m_96 m_550) rfl rfl rfl (by decide +kernel) ⟨Nat.le_of_ble_eq_true rfl, Nat.le_of_ble_eq_true rfl⟩) ⟨jw_blind0, fun U hU hW => ⟨rfl, congrArg Array.size hU⟩⟩ rfl rfl hl.1 rfl (lv_room (Nat.le_of_ble_eq_true rfl)) dX13_at_1 ⟨Nat.le_of_ble_eq_true rfl, Nat.le_of_ble_eq_true rfl⟩) hP hS hA (fun r_1 H locs hw_1 hP hS => ?_)
  rcases (show (p1 < 0 ∧ r_1 = 0) ∨ (¬ (p1 < 0) ∧ 5 < p1 ∧ r_1 = 0) ∨ (¬ (p1 < 0) ∧ ¬ (5 < p1) ∧ r_1 = 1) from hw_1) with ⟨c_2, e_2_0⟩ | ⟨c_3, c_4, e_4_1⟩ | ⟨c_5, c_6, e_6_2⟩
  · have e_2_0 := e_2_0.symm
    subst e_2_0
    refine lv_if_eq (tgt := 31) hx hb dX13_at_4 (by decide) (fun _ => ?_) (fun z => absurd (by decide) z)
    refine lv_iconst (v := (-1)) hx hb dX13_at_31 (by decide) ?_
    exact W.iret (v := (-1)) hx hb hr (fun t ht hW => ⟨⟨(-1), (), rfl, rfl, trivial⟩, hS.F ht⟩) hS.2.2 dX13_at_32
  · have e_4_1 := e_4_1.symm
    subst e_4_1
    refine lv_if_eq (tgt := 31) hx hb dX13_at_4 (by decide) (fun _ => ?_) (fun z => absurd (by decide) z)
    refine lv_iconst (v := (-1)) hx hb dX13_at_31 (by decide) ?_
    exact W.iret (v := (-1)) hx hb hr (fun t ht hW => ⟨⟨(-1), (), rfl, rfl, trivial⟩, hS.F ht⟩) hS.2.2 dX13_at_32
  · have e_6_2 := e_6_2.symm
    subst e_6_2
    refine lv_if_eq (tgt := 31) hx hb dX13_at_4 (by decide) (fun z => absurd z (by decide)) (fun _ => ?_)
    refine lv_iload_n hx hb dX13_at_7 rfl (lv_at hl 2 rfl) ?_
    refine lv_iconst (v := 0) hx hb dX13_at_8 (by decide) ?_
    refine lv_aload_n hx hb dX13_at_9 rfl (lv_at hl 0 rfl) ?_
    refine lv_iload_n hx hb dX13_at_10 rfl (lv_at hl 1 rfl) ?_
    refine jc_i (va_runV (As := [.int p1]) (rest := [.int 0, .int p2]) ⟨hx, hb, hml, hown, hts⟩ (kX13_orders_4 l dC dI _ ad ca p1 (jl_nlt c_5) (jl_ngt c_6)) (cwV 1 hts (jgoodV m_551 m_552 m_553 m_96 m_554) rfl rfl rfl (by decide +kernel) ⟨Nat.le_of_ble_eq_true rfl, Nat.le_of_ble_eq_true rfl⟩) ⟨jw_blind, va_recv hK hP (ci := 13) (q0 := 0) rfl rfl, fun U hU hW => ⟨rfl, jw_of hU hW hP hK hD⟩⟩ rfl rfl hl.1 rfl (lv_room (Nat.le_of_ble_eq_true rfl)) dX13_at_11 ⟨Nat.le_of_ble_eq_true rfl, Nat.le_of_ble_eq_true rfl⟩) hP hS hA (fun r_7 H locs hw_7 hP hS => ?_)
    have hw_7 : 0 = r_7 := Eq.symm hw_7
    subst hw_7
    refine lv_iconst (v := 1) hx hb dX13_at_14 (by decide) ?_
    refine lv_isub hx hb dX13_at_15 ?_
    refine jt_i (-1) (by decide) ?_
    refine jc_i (va_runS (As := [.int p2, .int 0, .int (-1)]) (rest := []) ⟨hx, hb, hml, hown, hts⟩ (kX13_in_2 l dC dI _ p2) (va_cwS 3 hts (jgoodS m_493 m_494 m_96 m_495) rfl rfl rfl (by decide +kernel) ⟨Nat.le_of_ble_eq_true rfl, Nat.le_of_ble_eq_true rfl⟩) ⟨jw_blind0, fun U hU hW => ⟨rfl, congrArg Array.size hU⟩⟩ rfl rfl hl.1 rfl (lv_room (Nat.le_of_ble_eq_true rfl)) dX13_at_16 ⟨Nat.le_of_ble_eq_true rfl, Nat.le_of_ble_eq_true rfl⟩) hP hS hA (fun r_8 H locs hw_8 hP hS => ?_)
    rcases (show (p2 < 0 ∧ r_8 = 0) ∨ (¬ (p2 < 0) ∧ r_8 = 0) from hw_8) with ⟨c_9, e_9_0⟩ | ⟨c_10, e_10_1⟩
    · have e_9_0 := e_9_0.symm
      subst e_9_0
      refine lv_if_eq (tgt := 31) hx hb dX13_at_19 (by decide) (fun _ => ?_) (fun z => absurd (by decide) z)
      refine lv_iconst (v := (-1)) hx hb dX13_at_31 (by decide) ?_
      exact W.iret (v := (-1)) hx hb hr (fun t ht hW => ⟨⟨(-1), (), rfl, rfl, trivial⟩, hS.F ht⟩) hS.2.2 dX13_at_32
    · have e_10_1 := e_10_1.symm
      subst e_10_1
      refine lv_if_eq (tgt := 31) hx hb dX13_at_19 (by decide) (fun _ => ?_) (fun z => absurd (by decide) z)
      refine lv_iconst (v := (-1)) hx hb dX13_at_31 (by decide) ?_
      exact W.iret (v := (-1)) hx hb hr (fun t ht hW => ⟨⟨(-1), (), rfl, rfl, trivial⟩, hS.F ht⟩) hS.2.2 dX13_at_32
set_option maxHeartbeats 500000 in
set_option maxRecDepth 100000 in
theorem tX13_why (l : Launch) (dC : Nat → ClassId) (dI : Nat → Nat → Nat) (sz : Nat) (ad : Nat → Nat) (ca : Nat → ClassId) (p1 : Int32) (p2 : Int32) : Met l yX13_why (jk yX13_why cX13_why 4 (some .int)) ({ frames := 2, cells := 0, slots := 0, locals := 43 }) (va_Pc [.ref (ad 0), .int p1, .int p2] (jw_P (dC, dI) (mW ad ca) (mT ca) sz)) (va_Qi (fun (r : Int32) (_ : Unit) => (r = (-1))) (fun _ _ => True) (va_A [] sz)) 0 0 (va_A [] sz) := by
  refine Met.ofW (cc := cX13_why) (maxL := 4) (ret := (some .int)) (by decide) rfl ?_
  intro p e s m args below meth c s₁ B hml hv
  obtain ⟨rfl, hsz, hP, hK, hD0⟩ := hv
  have hx := B.exec
  have hb := B.bytes
  have hr := B.returns
  have hts := atoms_spec (ws := (jk yX13_why cX13_why 4 (some .int))) B.pre
  have hown : s.vm.findClass RX13 = some m.cls := findClass_of_methodNamed B.named
  have hlocks := B.notSynchronized
  subst hsz
  have hD := hD0
  generalize hAe : (va_A [] s.heap.size) = A
  have hA : ∀ q : Nat, s.heap.size ≤ q → A q := fun q h => by rw [← hAe]; exact Or.inr h
  have hS : va_S A s.heap s.heap [] := va_S.rf
  have hP : va_P (dC, dI) vwCl (mW ad ca) s.heap := hP
  have hl := lv_entry ([.ref (ad 0), .int p1, .int p2]) (n := 4) (Nat.le_of_ble_eq_true rfl)
  rw [lg_entry_eq]
  generalize (lg_sl ([.ref (ad 0), .int p1, .int p2]) ++ List.replicate (4 - (lg_sl ([.ref (ad 0), .int p1, .int p2])).length) Slot.unset).toArray = ls at hl ⊢
  have hl : lv_has ls 4 [(0, .ref (ad 0)), (1, .int p1), (2, .int p2)] := hl
  refine lv_aload_n hx hb dX13_why_0 rfl (lv_at hl 0 rfl) ?_
  refine lv_iload_n hx hb dX13_why_1 rfl (lv_at hl 1 rfl) ?_
  refine jc_i (va_runV (As := [.int p1]) (rest := []) ⟨hx, hb, hml, hown, hts⟩ (kX13_isEntry_3 l dC dI _ ad ca p1) (cwV 1 hts (jgoodV m_540 m_541 m_542 m_96 m_543) rfl rfl rfl (by decide +kernel) ⟨Nat.le_of_ble_eq_true rfl, Nat.le_of_ble_eq_true rfl⟩) ⟨jw_blind, va_recv hK hP (ci := 13) (q0 := 0) rfl rfl, fun U hU hW => ⟨rfl, jw_of hU hW hP hK hD⟩⟩ rfl rfl hl.1 rfl (lv_room (Nat.le_of_ble_eq_true rfl)) dX13_why_2 ⟨Nat.le_of_ble_eq_true rfl, Nat.le_of_ble_eq_true rfl⟩) hP hS hA (fun r_1 H locs hw_1 hP hS => ?_)
  have hw_1 : 0 = r_1 := Eq.symm hw_1
  subst hw_1
  refine lv_if_eq (tgt := 21) hx hb dX13_why_5 (by decide) (fun _ => ?_) (fun z => absurd (by decide) z)
  refine lv_iconst (v := (-1)) hx hb dX13_why_21 (by decide) ?_
  exact W.iret (v := (-1)) hx hb hr (fun t ht hW => ⟨⟨(-1), (), rfl, rfl, trivial⟩, hS.F ht⟩) hS.2.2 dX13_why_22
set_option maxHeartbeats 500000 in
set_option maxRecDepth 100000 in
theorem kX13_in_20 (l : Launch) (dC : Nat → ClassId) (dI : Nat → Nat → Nat) (sz : Nat) (p0 : Int32) : Met l yX13_in (jk yX13_in cX13_in 3 (some .boolean)) ({ frames := 0, cells := 0, slots := 0, locals := 0 }) (va_Pc [.int p0, .int 1, .int 255] (fun U => U.heap.size = sz)) (va_Qi (fun (r : Int32) (_ : Unit) => (p0 < 1 ∧ r = 0) ∨ (¬ (p0 < 1) ∧ 255 < p0 ∧ r = 0) ∨ (¬ (p0 < 1) ∧ ¬ (255 < p0) ∧ r = 1)) (fun _ _ => True) (va_A [] sz)) 0 0 (va_A [] sz) := by
  refine Met.ofW (cc := cX13_in) (maxL := 3) (ret := (some .boolean)) (by decide) rfl ?_
  intro p e s m args below meth c s₁ B hml hv
  obtain ⟨rfl, hsz⟩ := hv
  have hx := B.exec
  have hb := B.bytes
  have hr := B.returns
  have hts := atoms_spec (ws := (jk yX13_in cX13_in 3 (some .boolean))) B.pre
  have hown : s.vm.findClass RX13 = some m.cls := findClass_of_methodNamed B.named
  have hlocks := B.notSynchronized
  subst hsz
  have hP : va_P (dC, dI) vwCl [] s.heap := fun k q h => by simp at h
  generalize hAe : (va_A [] s.heap.size) = A
  have hA : ∀ q : Nat, s.heap.size ≤ q → A q := fun q h => by rw [← hAe]; exact Or.inr h
  have hS : va_S A s.heap s.heap [] := va_S.rf
  have hl := lv_entry ([.int p0, .int 1, .int 255]) (n := 3) (Nat.le_of_ble_eq_true rfl)
  rw [lg_entry_eq]
  generalize (lg_sl ([.int p0, .int 1, .int 255]) ++ List.replicate (3 - (lg_sl ([.int p0, .int 1, .int 255])).length) Slot.unset).toArray = ls at hl ⊢
  have hl : lv_has ls 3 [(0, .int p0), (1, .int 1), (2, .int 255)] := hl
  refine lv_iload_n hx hb dX13_in_0 rfl (lv_at hl 0 rfl) ?_
  refine lv_iload_n hx hb dX13_in_1 rfl (lv_at hl 1 rfl) ?_
  refine lv_icmp_lt (tgt := 14) hx hb dX13_in_2 (by decide) (fun c_1 => ?_) (fun c_1 => ?_)
  · refine lv_iconst (v := 0) hx hb dX13_in_14 (by decide) ?_
    exact W.zret (v := 0) (ty := .boolean) hx hb hr rfl (fun t ht hW => ⟨⟨0, (), rfl, (Or.inl ⟨c_1, rfl⟩), trivial⟩, hS.F ht⟩) hS.2.2 dX13_in_15
  · refine lv_iload_n hx hb dX13_in_5 rfl (lv_at hl 0 rfl) ?_
    refine lv_iload_n hx hb dX13_in_6 rfl (lv_at hl 2 rfl) ?_
    refine lv_icmp_gt (tgt := 14) hx hb dX13_in_7 (by decide) (fun c_2 => ?_) (fun c_2 => ?_)
    · refine lv_iconst (v := 0) hx hb dX13_in_14 (by decide) ?_
      exact W.zret (v := 0) (ty := .boolean) hx hb hr rfl (fun t ht hW => ⟨⟨0, (), rfl, (Or.inr (Or.inl ⟨c_1, c_2, rfl⟩)), trivial⟩, hS.F ht⟩) hS.2.2 dX13_in_15
    · refine lv_iconst (v := 1) hx hb dX13_in_10 (by decide) ?_
      refine lv_goto (tgt := 15) hx hb dX13_in_11 (by decide) ?_
      exact W.zret (v := 1) (ty := .boolean) hx hb hr rfl (fun t ht hW => ⟨⟨1, (), rfl, (Or.inr (Or.inr ⟨c_1, c_2, rfl⟩)), trivial⟩, hS.F ht⟩) hS.2.2 dX13_in_15
set_option maxHeartbeats 500000 in
set_option maxRecDepth 100000 in
theorem kX13_in_21 (l : Launch) (dC : Nat → ClassId) (dI : Nat → Nat → Nat) (sz : Nat) (p0 : Int32) : Met l yX13_in (jk yX13_in cX13_in 3 (some .boolean)) ({ frames := 0, cells := 0, slots := 0, locals := 0 }) (va_Pc [.int p0, .int 1, .int 20] (fun U => U.heap.size = sz)) (va_Qi (fun (r : Int32) (_ : Unit) => (p0 < 1 ∧ r = 0) ∨ (¬ (p0 < 1) ∧ 20 < p0 ∧ r = 0) ∨ (¬ (p0 < 1) ∧ ¬ (20 < p0) ∧ r = 1)) (fun _ _ => True) (va_A [] sz)) 0 0 (va_A [] sz) := by
  refine Met.ofW (cc := cX13_in) (maxL := 3) (ret := (some .boolean)) (by decide) rfl ?_
  intro p e s m args below meth c s₁ B hml hv
  obtain ⟨rfl, hsz⟩ := hv
  have hx := B.exec
  have hb := B.bytes
  have hr := B.returns
  have hts := atoms_spec (ws := (jk yX13_in cX13_in 3 (some .boolean))) B.pre
  have hown : s.vm.findClass RX13 = some m.cls := findClass_of_methodNamed B.named
  have hlocks := B.notSynchronized
  subst hsz
  have hP : va_P (dC, dI) vwCl [] s.heap := fun k q h => by simp at h
  generalize hAe : (va_A [] s.heap.size) = A
  have hA : ∀ q : Nat, s.heap.size ≤ q → A q := fun q h => by rw [← hAe]; exact Or.inr h
  have hS : va_S A s.heap s.heap [] := va_S.rf
  have hl := lv_entry ([.int p0, .int 1, .int 20]) (n := 3) (Nat.le_of_ble_eq_true rfl)
  rw [lg_entry_eq]
  generalize (lg_sl ([.int p0, .int 1, .int 20]) ++ List.replicate (3 - (lg_sl ([.int p0, .int 1, .int 20])).length) Slot.unset).toArray = ls at hl ⊢
  have hl : lv_has ls 3 [(0, .int p0), (1, .int 1), (2, .int 20)] := hl
  refine lv_iload_n hx hb dX13_in_0 rfl (lv_at hl 0 rfl) ?_
  refine lv_iload_n hx hb dX13_in_1 rfl (lv_at hl 1 rfl) ?_
  refine lv_icmp_lt (tgt := 14) hx hb dX13_in_2 (by decide) (fun c_1 => ?_) (fun c_1 => ?_)
  · refine lv_iconst (v := 0) hx hb dX13_in_14 (by decide) ?_
    exact W.zret (v := 0) (ty := .boolean) hx hb hr rfl (fun t ht hW => ⟨⟨0, (), rfl, (Or.inl ⟨c_1, rfl⟩), trivial⟩, hS.F ht⟩) hS.2.2 dX13_in_15
  · refine lv_iload_n hx hb dX13_in_5 rfl (lv_at hl 0 rfl) ?_
    refine lv_iload_n hx hb dX13_in_6 rfl (lv_at hl 2 rfl) ?_
    refine lv_icmp_gt (tgt := 14) hx hb dX13_in_7 (by decide) (fun c_2 => ?_) (fun c_2 => ?_)
    · refine lv_iconst (v := 0) hx hb dX13_in_14 (by decide) ?_
      exact W.zret (v := 0) (ty := .boolean) hx hb hr rfl (fun t ht hW => ⟨⟨0, (), rfl, (Or.inr (Or.inl ⟨c_1, c_2, rfl⟩)), trivial⟩, hS.F ht⟩) hS.2.2 dX13_in_15
    · refine lv_iconst (v := 1) hx hb dX13_in_10 (by decide) ?_
      refine lv_goto (tgt := 15) hx hb dX13_in_11 (by decide) ?_
      exact W.zret (v := 1) (ty := .boolean) hx hb hr rfl (fun t ht hW => ⟨⟨1, (), rfl, (Or.inr (Or.inr ⟨c_1, c_2, rfl⟩)), trivial⟩, hS.F ht⟩) hS.2.2 dX13_in_15
set_option maxHeartbeats 500000 in
set_option maxRecDepth 100000 in
theorem kX13_in_22 (l : Launch) (dC : Nat → ClassId) (dI : Nat → Nat → Nat) (sz : Nat) (p0 : Int32) : Met l yX13_in (jk yX13_in cX13_in 3 (some .boolean)) ({ frames := 0, cells := 0, slots := 0, locals := 0 }) (va_Pc [.int p0, .int (-40000), .int 0] (fun U => U.heap.size = sz)) (va_Qi (fun (r : Int32) (_ : Unit) => (p0 < (-40000) ∧ r = 0) ∨ (¬ (p0 < (-40000)) ∧ 0 < p0 ∧ r = 0) ∨ (¬ (p0 < (-40000)) ∧ ¬ (0 < p0) ∧ r = 1)) (fun _ _ => True) (va_A [] sz)) 0 0 (va_A [] sz) := by
  refine Met.ofW (cc := cX13_in) (maxL := 3) (ret := (some .boolean)) (by decide) rfl ?_
  intro p e s m args below meth c s₁ B hml hv
  obtain ⟨rfl, hsz⟩ := hv
  have hx := B.exec
  have hb := B.bytes
  have hr := B.returns
  have hts := atoms_spec (ws := (jk yX13_in cX13_in 3 (some .boolean))) B.pre
  have hown : s.vm.findClass RX13 = some m.cls := findClass_of_methodNamed B.named
  have hlocks := B.notSynchronized
  subst hsz
  have hP : va_P (dC, dI) vwCl [] s.heap := fun k q h => by simp at h
  generalize hAe : (va_A [] s.heap.size) = A
  have hA : ∀ q : Nat, s.heap.size ≤ q → A q := fun q h => by rw [← hAe]; exact Or.inr h
  have hS : va_S A s.heap s.heap [] := va_S.rf
  have hl := lv_entry ([.int p0, .int (-40000), .int 0]) (n := 3) (Nat.le_of_ble_eq_true rfl)
  rw [lg_entry_eq]
  generalize (lg_sl ([.int p0, .int (-40000), .int 0]) ++ List.replicate (3 - (lg_sl ([.int p0, .int (-40000), .int 0])).length) Slot.unset).toArray = ls at hl ⊢
  have hl : lv_has ls 3 [(0, .int p0), (1, .int (-40000)), (2, .int 0)] := hl
  refine lv_iload_n hx hb dX13_in_0 rfl (lv_at hl 0 rfl) ?_
  refine lv_iload_n hx hb dX13_in_1 rfl (lv_at hl 1 rfl) ?_
  refine lv_icmp_lt (tgt := 14) hx hb dX13_in_2 (by decide) (fun c_1 => ?_) (fun c_1 => ?_)
  · refine lv_iconst (v := 0) hx hb dX13_in_14 (by decide) ?_
    exact W.zret (v := 0) (ty := .boolean) hx hb hr rfl (fun t ht hW => ⟨⟨0, (), rfl, (Or.inl ⟨c_1, rfl⟩), trivial⟩, hS.F ht⟩) hS.2.2 dX13_in_15
  · refine lv_iload_n hx hb dX13_in_5 rfl (lv_at hl 0 rfl) ?_
    refine lv_iload_n hx hb dX13_in_6 rfl (lv_at hl 2 rfl) ?_
    refine lv_icmp_gt (tgt := 14) hx hb dX13_in_7 (by decide) (fun c_2 => ?_) (fun c_2 => ?_)
    · refine lv_iconst (v := 0) hx hb dX13_in_14 (by decide) ?_
      exact W.zret (v := 0) (ty := .boolean) hx hb hr rfl (fun t ht hW => ⟨⟨0, (), rfl, (Or.inr (Or.inl ⟨c_1, c_2, rfl⟩)), trivial⟩, hS.F ht⟩) hS.2.2 dX13_in_15
    · refine lv_iconst (v := 1) hx hb dX13_in_10 (by decide) ?_
      refine lv_goto (tgt := 15) hx hb dX13_in_11 (by decide) ?_
      exact W.zret (v := 1) (ty := .boolean) hx hb hr rfl (fun t ht hW => ⟨⟨1, (), rfl, (Or.inr (Or.inr ⟨c_1, c_2, rfl⟩)), trivial⟩, hS.F ht⟩) hS.2.2 dX13_in_15
theorem s_tX13_hand_0 {p1 p2 p3 : Int32} (c_2 : p1 < 1) : (-1) = sp_hand p1 p2 p3 := by
  unfold sp_hand
  have g0 : p1.toInt < 1 := ji_lt.mp c_2
  split <;> first | rfl | (exfalso; omega)
theorem s_tX13_hand_1 {p1 p2 p3 : Int32} (c_3 : ¬ (p1 < 1)) (c_4 : 255 < p1) : (-1) = sp_hand p1 p2 p3 := by
  unfold sp_hand
  have g0 : ¬ (p1.toInt < 1) := fun z => c_3 (ji_lt.mpr z)
  have g1 : 255 < p1.toInt := ji_lt.mp c_4
  split <;> first | rfl | (exfalso; omega)
theorem s_tX13_hand_2 {p1 p2 p3 : Int32} (c_5 : ¬ (p1 < 1)) (c_6 : ¬ (255 < p1)) (c_8 : p2 < 1) : (-1) = sp_hand p1 p2 p3 := by
  unfold sp_hand
  have g0 : ¬ (p1.toInt < 1) := fun z => c_5 (ji_lt.mpr z)
  have g1 : ¬ (255 < p1.toInt) := fun z => c_6 (ji_lt.mpr z)
  have g2 : p2.toInt < 1 := ji_lt.mp c_8
  split <;> first | rfl | (exfalso; omega)
theorem s_tX13_hand_3 {p1 p2 p3 : Int32} (c_5 : ¬ (p1 < 1)) (c_6 : ¬ (255 < p1)) (c_9 : ¬ (p2 < 1)) (c_10 : 20 < p2) : (-1) = sp_hand p1 p2 p3 := by
  unfold sp_hand
  have g0 : ¬ (p1.toInt < 1) := fun z => c_5 (ji_lt.mpr z)
  have g1 : ¬ (255 < p1.toInt) := fun z => c_6 (ji_lt.mpr z)
  have g2 : ¬ (p2.toInt < 1) := fun z => c_9 (ji_lt.mpr z)
  have g3 : 20 < p2.toInt := ji_lt.mp c_10
  split <;> first | rfl | (exfalso; omega)
theorem s_tX13_hand_4 {p1 p2 p3 : Int32} (c_5 : ¬ (p1 < 1)) (c_6 : ¬ (255 < p1)) (c_11 : ¬ (p2 < 1)) (c_12 : ¬ (20 < p2)) (c_14 : p3 < (-40000)) : (-1) = sp_hand p1 p2 p3 := by
  unfold sp_hand
  have g0 : ¬ (p1.toInt < 1) := fun z => c_5 (ji_lt.mpr z)
  have g1 : ¬ (255 < p1.toInt) := fun z => c_6 (ji_lt.mpr z)
  have g2 : ¬ (p2.toInt < 1) := fun z => c_11 (ji_lt.mpr z)
  have g3 : ¬ (20 < p2.toInt) := fun z => c_12 (ji_lt.mpr z)
  have g4 : p3.toInt < (-40000) := ji_lt.mp c_14
  split <;> first | rfl | (exfalso; omega)
theorem s_tX13_hand_5 {p1 p2 p3 : Int32} (c_5 : ¬ (p1 < 1)) (c_6 : ¬ (255 < p1)) (c_11 : ¬ (p2 < 1)) (c_12 : ¬ (20 < p2)) (c_15 : ¬ (p3 < (-40000))) (c_16 : 0 < p3) : (-1) = sp_hand p1 p2 p3 := by
  unfold sp_hand
  have g0 : ¬ (p1.toInt < 1) := fun z => c_5 (ji_lt.mpr z)
  have g1 : ¬ (255 < p1.toInt) := fun z => c_6 (ji_lt.mpr z)
  have g2 : ¬ (p2.toInt < 1) := fun z => c_11 (ji_lt.mpr z)
  have g3 : ¬ (20 < p2.toInt) := fun z => c_12 (ji_lt.mpr z)
  have g4 : ¬ (p3.toInt < (-40000)) := fun z => c_15 (ji_lt.mpr z)
  have g5 : 0 < p3.toInt := ji_lt.mp c_16
  split <;> first | rfl | (exfalso; omega)
theorem s_tX13_hand_6 {p1 p2 p3 : Int32} (c_5 : ¬ (p1 < 1)) (c_6 : ¬ (255 < p1)) (c_11 : ¬ (p2 < 1)) (c_12 : ¬ (20 < p2)) (c_17 : ¬ (p3 < (-40000))) (c_18 : ¬ (0 < p3)) : 0 = sp_hand p1 p2 p3 := by
  unfold sp_hand
  have g0 : ¬ (p1.toInt < 1) := fun z => c_5 (ji_lt.mpr z)
  have g1 : ¬ (255 < p1.toInt) := fun z => c_6 (ji_lt.mpr z)
  have g2 : ¬ (p2.toInt < 1) := fun z => c_11 (ji_lt.mpr z)
  have g3 : ¬ (20 < p2.toInt) := fun z => c_12 (ji_lt.mpr z)
  have g4 : ¬ (p3.toInt < (-40000)) := fun z => c_17 (ji_lt.mpr z)
  have g5 : ¬ (0 < p3.toInt) := fun z => c_18 (ji_lt.mpr z)
  split <;> first | rfl | (exfalso; omega)
set_option maxHeartbeats 500000 in
set_option maxRecDepth 100000 in
theorem tX13_hand (l : Launch) (dC : Nat → ClassId) (dI : Nat → Nat → Nat) (sz : Nat) (ad : Nat → Nat) (ca : Nat → ClassId) (p1 : Int32) (p2 : Int32) (p3 : Int32) : Met l yX13_hand (jk yX13_hand cX13_hand 4 (some .int)) ({ frames := 1, cells := 0, slots := 0, locals := 22 }) (va_Pc [.ref (ad 0), .int p1, .int p2, .int p3] (jw_P (dC, dI) (mW ad ca) (mT ca) sz)) (va_Qi (fun (r : Int32) (_ : Unit) => r = sp_hand p1 p2 p3) (fun _ _ => True) (va_A (mW ad ca) sz)) 0 0 (va_A (mW ad ca) sz) := by
  refine Met.ofW (cc := cX13_hand) (maxL := 4) (ret := (some .int)) (by decide) rfl ?_
  intro p e s m args below meth c s₁ B hml hv
  obtain ⟨rfl, hsz, hP, hK, hD0⟩ := hv
  have hx := B.exec
  have hb := B.bytes
  have hr := B.returns
  have hts := atoms_spec (ws := (jk yX13_hand cX13_hand 4 (some .int))) B.pre
  have hown : s.vm.findClass RX13 = some m.cls := findClass_of_methodNamed B.named
  have hlocks := B.notSynchronized
  subst hsz
  have hD := hD0.self (sz := s.heap.size)
  generalize hAe : (va_A (mW ad ca) s.heap.size) = A at hD ⊢
  have hA : ∀ q : Nat, s.heap.size ≤ q → A q := fun q h => by rw [← hAe]; exact Or.inr h
  have hS : va_S A s.heap s.heap [] := va_S.rf
  have hP : va_P (dC, dI) vwCl (mW ad ca) s.heap := hP
  have hl := lv_entry ([.ref (ad 0), .int p1, .int p2, .int p3]) (n := 4) (Nat.le_of_ble_eq_true rfl)
  rw [lg_entry_eq]
  generalize (lg_sl ([.ref (ad 0), .int p1, .int p2, .int p3]) ++ List.replicate (4 - (lg_sl ([.ref (ad 0), .int p1, .int p2, .int p3])).length) Slot.unset).toArray = ls at hl ⊢
  have hl : lv_has ls 4 [(0, .ref (ad 0)), (1, .int p1), (2, .int p2), (3, .int p3)] := hl
  refine lv_iload_n hx hb dX13_hand_0 rfl (lv_at hl 1 rfl) ?_
  refine lv_iconst (v := 1) hx hb dX13_hand_1 (by decide) ?_
  refine lv_sipush (v := 255) hx hb dX13_hand_2 (by decide) ?_
  refine jc_i (va_runS (As := [.int p1, .int 1, .int 255]) (rest := []) ⟨hx, hb, hml, hown, hts⟩ (kX13_in_20 l dC dI _ p1) (va_cwS 3 hts (jgoodS m_493 m_494 m_96 m_495) rfl rfl rfl (by decide +kernel) ⟨Nat.le_of_ble_eq_true rfl, Nat.le_of_ble_eq_true rfl⟩) ⟨jw_blind0, fun U hU hW => ⟨rfl, congrArg Array.size hU⟩⟩ rfl rfl hl.1 rfl (lv_room (Nat.le_of_ble_eq_true rfl)) dX13_hand_5 ⟨Nat.le_of_ble_eq_true rfl, Nat.le_of_ble_eq_true rfl⟩) hP hS hA (fun r_1 H locs hw_1 hP hS => ?_)
  rcases (show (p1 < 1 ∧ r_1 = 0) ∨ (¬ (p1 < 1) ∧ 255 < p1 ∧ r_1 = 0) ∨ (¬ (p1 < 1) ∧ ¬ (255 < p1) ∧ r_1 = 1) from hw_1) with ⟨c_2, e_2_0⟩ | ⟨c_3, c_4, e_4_1⟩ | ⟨c_5, c_6, e_6_2⟩
  · have e_2_0 := e_2_0.symm
    subst e_2_0
    refine lv_if_eq (tgt := 41) hx hb dX13_hand_8 (by decide) (fun _ => ?_) (fun z => absurd (by decide) z)
    refine lv_iconst (v := (-1)) hx hb dX13_hand_41 (by decide) ?_
    exact W.iret (v := (-1)) hx hb hr (fun t ht hW => ⟨⟨(-1), (), rfl, (s_tX13_hand_0 (p1 := p1) (p2 := p2) (p3 := p3) c_2), trivial⟩, hS.F ht⟩) hS.2.2 dX13_hand_42
  · have e_4_1 := e_4_1.symm
    subst e_4_1
    refine lv_if_eq (tgt := 41) hx hb dX13_hand_8 (by decide) (fun _ => ?_) (fun z => absurd (by decide) z)
    refine lv_iconst (v := (-1)) hx hb dX13_hand_41 (by decide) ?_
    exact W.iret (v := (-1)) hx hb hr (fun t ht hW => ⟨⟨(-1), (), rfl, (s_tX13_hand_1 (p1 := p1) (p2 := p2) (p3 := p3) c_3 c_4), trivial⟩, hS.F ht⟩) hS.2.2 dX13_hand_42
  · have e_6_2 := e_6_2.symm
    subst e_6_2
    refine lv_if_eq (tgt := 41) hx hb dX13_hand_8 (by decide) (fun z => absurd z (by decide)) (fun _ => ?_)
    refine lv_iload_n hx hb dX13_hand_11 rfl (lv_at hl 2 rfl) ?_
    refine lv_iconst (v := 1) hx hb dX13_hand_12 (by decide) ?_
    refine lv_bipush (v := 20) hx hb dX13_hand_13 (by decide) ?_
    refine jc_i (va_runS (As := [.int p2, .int 1, .int 20]) (rest := []) ⟨hx, hb, hml, hown, hts⟩ (kX13_in_21 l dC dI _ p2) (va_cwS 3 hts (jgoodS m_493 m_494 m_96 m_495) rfl rfl rfl (by decide +kernel) ⟨Nat.le_of_ble_eq_true rfl, Nat.le_of_ble_eq_true rfl⟩) ⟨jw_blind0, fun U hU hW => ⟨rfl, congrArg Array.size hU⟩⟩ rfl rfl hl.1 rfl (lv_room (Nat.le_of_ble_eq_true rfl)) dX13_hand_15 ⟨Nat.le_of_ble_eq_true rfl, Nat.le_of_ble_eq_true rfl⟩) hP hS hA (fun r_7 H locs hw_7 hP hS => ?_)
    rcases (show (p2 < 1 ∧ r_7 = 0) ∨ (¬ (p2 < 1) ∧ 20 < p2 ∧ r_7 = 0) ∨ (¬ (p2 < 1) ∧ ¬ (20 < p2) ∧ r_7 = 1) from hw_7) with ⟨c_8, e_8_0⟩ | ⟨c_9, c_10, e_10_1⟩ | ⟨c_11, c_12, e_12_2⟩
    · have e_8_0 := e_8_0.symm
      subst e_8_0
      refine lv_if_eq (tgt := 41) hx hb dX13_hand_18 (by decide) (fun _ => ?_) (fun z => absurd (by decide) z)
      refine lv_iconst (v := (-1)) hx hb dX13_hand_41 (by decide) ?_
      exact W.iret (v := (-1)) hx hb hr (fun t ht hW => ⟨⟨(-1), (), rfl, (s_tX13_hand_2 (p1 := p1) (p2 := p2) (p3 := p3) c_5 c_6 c_8), trivial⟩, hS.F ht⟩) hS.2.2 dX13_hand_42
    · have e_10_1 := e_10_1.symm
      subst e_10_1
      refine lv_if_eq (tgt := 41) hx hb dX13_hand_18 (by decide) (fun _ => ?_) (fun z => absurd (by decide) z)
      refine lv_iconst (v := (-1)) hx hb dX13_hand_41 (by decide) ?_
      exact W.iret (v := (-1)) hx hb hr (fun t ht hW => ⟨⟨(-1), (), rfl, (s_tX13_hand_3 (p1 := p1) (p2 := p2) (p3 := p3) c_5 c_6 c_9 c_10), trivial⟩, hS.F ht⟩) hS.2.2 dX13_hand_42
    · have e_12_2 := e_12_2.symm
      subst e_12_2
      refine lv_if_eq (tgt := 41) hx hb dX13_hand_18 (by decide) (fun z => absurd z (by decide)) (fun _ => ?_)
      refine lv_iload_n hx hb dX13_hand_21 rfl (lv_at hl 3 rfl) ?_
      refine lv_ldcw hx hb hown (hts (.constant RX13 448 (-40000)) (jm m_555)) dX13_hand_22 ?_
      refine lv_iconst (v := 0) hx hb dX13_hand_25 (by decide) ?_
      refine jc_i (va_runS (As := [.int p3, .int (-40000), .int 0]) (rest := []) ⟨hx, hb, hml, hown, hts⟩ (kX13_in_22 l dC dI _ p3) (va_cwS 3 hts (jgoodS m_493 m_494 m_96 m_495) rfl rfl rfl (by decide +kernel) ⟨Nat.le_of_ble_eq_true rfl, Nat.le_of_ble_eq_true rfl⟩) ⟨jw_blind0, fun U hU hW => ⟨rfl, congrArg Array.size hU⟩⟩ rfl rfl hl.1 rfl (lv_room (Nat.le_of_ble_eq_true rfl)) dX13_hand_26 ⟨Nat.le_of_ble_eq_true rfl, Nat.le_of_ble_eq_true rfl⟩) hP hS hA (fun r_13 H locs hw_13 hP hS => ?_)
      rcases (show (p3 < (-40000) ∧ r_13 = 0) ∨ (¬ (p3 < (-40000)) ∧ 0 < p3 ∧ r_13 = 0) ∨ (¬ (p3 < (-40000)) ∧ ¬ (0 < p3) ∧ r_13 = 1) from hw_13) with ⟨c_14, e_14_0⟩ | ⟨c_15, c_16, e_16_1⟩ | ⟨c_17, c_18, e_18_2⟩
      · have e_14_0 := e_14_0.symm
        subst e_14_0
        refine lv_if_eq (tgt := 41) hx hb dX13_hand_29 (by decide) (fun _ => ?_) (fun z => absurd (by decide) z)
        refine lv_iconst (v := (-1)) hx hb dX13_hand_41 (by decide) ?_
        exact W.iret (v := (-1)) hx hb hr (fun t ht hW => ⟨⟨(-1), (), rfl, (s_tX13_hand_4 (p1 := p1) (p2 := p2) (p3 := p3) c_5 c_6 c_11 c_12 c_14), trivial⟩, hS.F ht⟩) hS.2.2 dX13_hand_42
      · have e_16_1 := e_16_1.symm
        subst e_16_1
        refine lv_if_eq (tgt := 41) hx hb dX13_hand_29 (by decide) (fun _ => ?_) (fun z => absurd (by decide) z)
        refine lv_iconst (v := (-1)) hx hb dX13_hand_41 (by decide) ?_
        exact W.iret (v := (-1)) hx hb hr (fun t ht hW => ⟨⟨(-1), (), rfl, (s_tX13_hand_5 (p1 := p1) (p2 := p2) (p3 := p3) c_5 c_6 c_11 c_12 c_15 c_16), trivial⟩, hS.F ht⟩) hS.2.2 dX13_hand_42
      · have e_18_2 := e_18_2.symm
        subst e_18_2
        refine lv_if_eq (tgt := 41) hx hb dX13_hand_29 (by decide) (fun z => absurd z (by decide)) (fun _ => ?_)
        refine lv_aload_n hx hb dX13_hand_32 rfl (lv_at hl 0 rfl) ?_
        refine va_get (D := (dC, dI)) (ci := 13) (v := .int 0) (C := RX13) (T := TX13) (N := 104) hx hb hts (jh hin_RX13) hown hK hP 0 rfl rfl 50 (by decide) (hts (.fieldLink RX13 445 "BookOfAllModel" "hands" "I") (jm m_556)) (fun _ h9 => h9) rfl dX13_hand_33 ?_
        refine lv_bipush (v := 12) hx hb dX13_hand_36 (by decide) ?_
        refine lv_icmp_ne (tgt := 43) hx hb dX13_hand_38 (by decide) (fun _ => ?_) (fun z => absurd z (by decide))
        refine lv_aload_n hx hb dX13_hand_43 rfl (lv_at hl 0 rfl) ?_
        refine va_get (D := (dC, dI)) (ci := 13) (v := .ref (ad 37)) (C := RX13) (T := TX13) (N := 104) hx hb hts (jh hin_RX13) hown hK hP 0 rfl rfl 51 (by decide) (hts (.fieldLink RX13 120 "BookOfAllModel" "fields" "[I") (jm m_39)) (fun _ h9 => h9) rfl dX13_hand_44 ?_
        refine lv_aload_n hx hb dX13_hand_47 rfl (lv_at hl 0 rfl) ?_
        refine va_get (D := (dC, dI)) (ci := 13) (v := .int 0) (C := RX13) (T := TX13) (N := 104) hx hb hts (jh hin_RX13) hown hK hP 0 rfl rfl 50 (by decide) (hts (.fieldLink RX13 445 "BookOfAllModel" "hands" "I") (jm m_556)) (fun _ h9 => h9) rfl dX13_hand_48 ?_
        refine lv_iload_n hx hb dX13_hand_51 rfl (lv_at hl 1 rfl) ?_
        refine va_iast hx hb hK hP hD hS 37 36 rfl rfl (vp_in_nI (n := 0) (by decide) (by decide)) dX13_hand_52 (fun H locs hP hD hS => ?_)
        refine lv_aload_n hx hb dX13_hand_53 rfl (lv_at hl 0 rfl) ?_
        refine va_get (D := (dC, dI)) (ci := 13) (v := .ref (ad 38)) (C := RX13) (T := TX13) (N := 104) hx hb hts (jh hin_RX13) hown hK hP 0 rfl rfl 52 (by decide) (hts (.fieldLink RX13 123 "BookOfAllModel" "skill" "[I") (jm m_40)) (fun _ h9 => h9) rfl dX13_hand_54 ?_
        refine lv_aload_n hx hb dX13_hand_57 rfl (lv_at hl 0 rfl) ?_
        refine va_get (D := (dC, dI)) (ci := 13) (v := .int 0) (C := RX13) (T := TX13) (N := 104) hx hb hts (jh hin_RX13) hown hK hP 0 rfl rfl 50 (by decide) (hts (.fieldLink RX13 445 "BookOfAllModel" "hands" "I") (jm m_556)) (fun _ h9 => h9) rfl dX13_hand_58 ?_
        refine lv_iload_n hx hb dX13_hand_61 rfl (lv_at hl 2 rfl) ?_
        refine va_iast hx hb hK hP hD hS 38 37 rfl rfl (vp_in_nI (n := 0) (by decide) (by decide)) dX13_hand_62 (fun H locs hP hD hS => ?_)
        refine lv_aload_n hx hb dX13_hand_63 rfl (lv_at hl 0 rfl) ?_
        refine va_get (D := (dC, dI)) (ci := 13) (v := .ref (ad 39)) (C := RX13) (T := TX13) (N := 104) hx hb hts (jh hin_RX13) hown hK hP 0 rfl rfl 53 (by decide) (hts (.fieldLink RX13 126 "BookOfAllModel" "born" "[I") (jm m_41)) (fun _ h9 => h9) rfl dX13_hand_64 ?_
        refine lv_aload_n hx hb dX13_hand_67 rfl (lv_at hl 0 rfl) ?_
        refine va_get (D := (dC, dI)) (ci := 13) (v := .int 0) (C := RX13) (T := TX13) (N := 104) hx hb hts (jh hin_RX13) hown hK hP 0 rfl rfl 50 (by decide) (hts (.fieldLink RX13 445 "BookOfAllModel" "hands" "I") (jm m_556)) (fun _ h9 => h9) rfl dX13_hand_68 ?_
        refine lv_iload_n hx hb dX13_hand_71 rfl (lv_at hl 3 rfl) ?_
        refine va_iast hx hb hK hP hD hS 39 38 rfl rfl (vp_in_nI (n := 0) (by decide) (by decide)) dX13_hand_72 (fun H locs hP hD hS => ?_)
        refine lv_aload_n hx hb dX13_hand_73 rfl (lv_at hl 0 rfl) ?_
        refine lv_dup hx hb dX13_hand_74 rfl ?_
        refine va_get (D := (dC, dI)) (ci := 13) (v := .int 0) (C := RX13) (T := TX13) (N := 104) hx hb hts (jh hin_RX13) hown hK hP 0 rfl rfl 50 (by decide) (hts (.fieldLink RX13 445 "BookOfAllModel" "hands" "I") (jm m_556)) (fun _ h9 => h9) rfl dX13_hand_75 ?_
        refine lv_iconst (v := 1) hx hb dX13_hand_78 (by decide) ?_
        refine lv_iadd hx hb dX13_hand_79 ?_
        refine jt_i 1 (by decide) ?_
        refine va_put (D := (dC, dI)) (ci := 13) (v := .int 1) (ty := .int) (C := RX13) (T := TX13) (N := 104) hx hb hts (jh hin_RX13) tyX13 tyX13_ok nmX13 hown hK hP hD hS 0 rfl rfl 50 (by decide) (hts (.fieldLink RX13 445 "BookOfAllModel" "hands" "I") (jm m_556)) (fun _ h9 => h9) rfl (by decide +kernel) rfl rfl (Nat.le_of_ble_eq_true rfl) dX13_hand_80 (fun H locs hP hD hS => ?_)
        refine lv_aload_n hx hb dX13_hand_83 rfl (lv_at hl 0 rfl) ?_
        refine va_get (D := (dC, dI)) (ci := 13) (v := .int 1) (C := RX13) (T := TX13) (N := 104) hx hb hts (jh hin_RX13) hown hK hP 0 rfl rfl 50 (by decide) (hts (.fieldLink RX13 445 "BookOfAllModel" "hands" "I") (jm m_556)) (fun _ h9 => h9) rfl dX13_hand_84 ?_
        refine lv_iconst (v := 1) hx hb dX13_hand_87 (by decide) ?_
        refine lv_isub hx hb dX13_hand_88 ?_
        refine jt_i 0 (by decide) ?_
        exact W.iret (v := 0) hx hb hr (fun t ht hW => ⟨⟨0, (), rfl, (s_tX13_hand_6 (p1 := p1) (p2 := p2) (p3 := p3) c_5 c_6 c_11 c_12 c_17 c_18), trivial⟩, hS.F ht⟩) hS.2.2 dX13_hand_89
