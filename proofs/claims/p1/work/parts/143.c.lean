set_option maxHeartbeats 500000 in
set_option maxRecDepth 100000 in
theorem kX13_in_2 (l : Launch) (dC : Nat → ClassId) (dI : Nat → Nat → Nat) (sz : Nat) (p0 : Int32) : Met l yX13_in (jk yX13_in cX13_in 3 (some .boolean)) ({ frames := 0, cells := 0, slots := 0, locals := 0 }) (va_Pc [.int p0, .int 0, .int (-1)] (fun U => U.heap.size = sz)) (va_Qi (fun (r : Int32) (_ : Unit) => (p0 < 0 ∧ r = 0) ∨ (¬ (p0 < 0) ∧ r = 0)) (fun _ _ => True) (va_A [] sz)) 0 0 (va_A [] sz) := by
  refine Met.ofW (cc := cX13_in) (maxL := 3) (ret := (some .boolean)) (by decide) rfl ?_
  intro p e s m args below meth c s₁ B hml hv
  obtain ⟨rfl, hsz⟩ := hv
  have hx := B.exec
  have hb := B.bytes
  have hr := B.returns
  have hts := atoms_spec (ws := (jk yX13_in cX13_in 3 (some .boolean))) B.pre
  have hown : s.vm.findClass RX13 = some m.cls := findClass_of_methodNamed B.named
  have hlocks := B.notSynchronized
  subst hsz
  have hP : va_P (dC, dI) vwCl [] s.heap := fun k q h => by simp at h
  generalize hAe : (va_A [] s.heap.size) = A
  have hA : ∀ q : Nat, s.heap.size ≤ q → A q := fun q h => by rw [← hAe]; exact Or.inr h
  have hS : va_S A s.heap s.heap [] := va_S.rf
  have hl := lv_entry ([.int p0, .int 0, .int (-1)]) (n := 3) (Nat.le_of_ble_eq_true rfl)
  rw [lg_entry_eq]
  generalize (lg_sl ([.int p0, .int 0, .int (-1)]) ++ List.replicate (3 - (lg_sl ([.int p0, .int 0, .int (-1)])).length) Slot.unset).toArray = ls at hl ⊢
  have hl : lv_has ls 3 [(0, .int p0), (1, .int 0), (2, .int (-1))] := hl
  refine lv_iload_n hx hb dX13_in_0 rfl (lv_at hl 0 rfl) ?_
  refine lv_iload_n hx hb dX13_in_1 rfl (lv_at hl 1 rfl) ?_
  refine lv_icmp_lt (tgt := 14) hx hb dX13_in_2 (by decide) (fun c_1 => ?_) (fun c_1 => ?_)
  · refine lv_iconst (v := 0) hx hb dX13_in_14 (by decide) ?_
    exact W.zret (v := 0) (ty := .boolean) hx hb hr rfl (fun t ht hW => ⟨⟨0, (), rfl, (Or.inl ⟨c_1, rfl⟩), trivial⟩, hS.F ht⟩) hS.2.2 dX13_in_15
  · refine lv_iload_n hx hb dX13_in_5 rfl (lv_at hl 0 rfl) ?_
    refine lv_iload_n hx hb dX13_in_6 rfl (lv_at hl 2 rfl) ?_
    refine lv_icmp_gt (tgt := 14) hx hb dX13_in_7 (by decide) (fun _ => ?_) (fun z => absurd (jb_gt (jl_nlt c_1) (by decide)) z)
    refine lv_iconst (v := 0) hx hb dX13_in_14 (by decide) ?_
    exact W.zret (v := 0) (ty := .boolean) hx hb hr rfl (fun t ht hW => ⟨⟨0, (), rfl, (Or.inr ⟨c_1, rfl⟩), trivial⟩, hS.F ht⟩) hS.2.2 dX13_in_15
set_option maxHeartbeats 500000 in
set_option maxRecDepth 100000 in
theorem tX13_force (l : Launch) (dC : Nat → ClassId) (dI : Nat → Nat → Nat) (sz : Nat) (ad : Nat → Nat) (ca : Nat → ClassId) (p1 : Int32) (p2 : Int32) : Met l yX13_force (jk yX13_force cX13_force 3 (some .int)) ({ frames := 1, cells := 0, slots := 0, locals := 22 }) (va_Pc [.ref (ad 0), .int p1, .int p2] (jw_P (dC, dI) (mW ad ca) (mT ca) sz)) (va_Qi (fun (r : Int32) (_ : Unit) => (r = (-1))) (fun _ _ => True) (va_A [] sz)) 0 0 (va_A [] sz) := by
  refine Met.ofW (cc := cX13_force) (maxL := 3) (ret := (some .int)) (by decide) rfl ?_
  intro p e s m args below meth c s₁ B hml hv
  obtain ⟨rfl, hsz, hP, hK, hD0⟩ := hv
  have hx := B.exec
  have hb := B.bytes
  have hr := B.returns
  have hts := atoms_spec (ws := (jk yX13_force cX13_force 3 (some .int))) B.pre
  have hown : s.vm.findClass RX13 = some m.cls := findClass_of_methodNamed B.named
  have hlocks := B.notSynchronized
  subst hsz
  have hD := hD0
  generalize hAe : (va_A [] s.heap.size) = A
  have hA : ∀ q : Nat, s.heap.size ≤ q → A q := fun q h => by rw [← hAe]; exact Or.inr h
  have hS : va_S A s.heap s.heap [] := va_S.rf
  have hP : va_P (dC, dI) vwCl (mW ad ca) s.heap := hP
  have hl := lv_entry ([.ref (ad 0), .int p1, .int p2]) (n := 3) (Nat.le_of_ble_eq_true rfl)
  rw [lg_entry_eq]
  generalize (lg_sl ([.ref (ad 0), .int p1, .int p2]) ++ List.replicate (3 - (lg_sl ([.ref (ad 0), .int p1, .int p2])).length) Slot.unset).toArray = ls at hl ⊢
  have hl : lv_has ls 3 [(0, .ref (ad 0)), (1, .int p1), (2, .int p2)] := hl
  refine lv_iload_n hx hb dX13_force_0 rfl (lv_at hl 1 rfl) ?_
  refine lv_iconst (v := 0) hx hb dX13_force_1 (by decide) ?_
  refine lv_aload_n hx hb dX13_force_2 rfl (lv_at hl 0 rfl) ?_
  refine va_get (D := (dC, dI)) (ci := 13) (v := .int 0) (C := RX13) (T := TX13) (N := 104) hx hb hts (jh hin_RX13) hown hK hP 0 rfl rfl 18 (by decide) (hts (.fieldLink RX13 374 "BookOfAllModel" "sheets" "I") (jm m_524)) (fun _ h9 => h9) rfl dX13_force_3 ?_
  refine lv_iconst (v := 1) hx hb dX13_force_6 (by decide) ?_
  refine lv_isub hx hb dX13_force_7 ?_
  refine jt_i (-1) (by decide) ?_
  refine jc_i (va_runS (As := [.int p1, .int 0, .int (-1)]) (rest := []) ⟨hx, hb, hml, hown, hts⟩ (kX13_in_2 l dC dI _ p1) (va_cwS 3 hts (jgoodS m_493 m_494 m_96 m_495) rfl rfl rfl (by decide +kernel) ⟨Nat.le_of_ble_eq_true rfl, Nat.le_of_ble_eq_true rfl⟩) ⟨jw_blind0, fun U hU hW => ⟨rfl, congrArg Array.size hU⟩⟩ rfl rfl hl.1 rfl (lv_room (Nat.le_of_ble_eq_true rfl)) dX13_force_8 ⟨Nat.le_of_ble_eq_true rfl, Nat.le_of_ble_eq_true rfl⟩) hP hS hA (fun r_1 H locs hw_1 hP hS => ?_)
  rcases (show (p1 < 0 ∧ r_1 = 0) ∨ (¬ (p1 < 0) ∧ r_1 = 0) from hw_1) with ⟨c_2, e_2_0⟩ | ⟨c_3, e_3_1⟩
  · have e_2_0 := e_2_0.symm
    subst e_2_0
    refine lv_if_eq (tgt := 44) hx hb dX13_force_11 (by decide) (fun _ => ?_) (fun z => absurd (by decide) z)
    refine lv_iconst (v := (-1)) hx hb dX13_force_44 (by decide) ?_
    exact W.iret (v := (-1)) hx hb hr (fun t ht hW => ⟨⟨(-1), (), rfl, rfl, trivial⟩, hS.F ht⟩) hS.2.2 dX13_force_45
  · have e_3_1 := e_3_1.symm
    subst e_3_1
    refine lv_if_eq (tgt := 44) hx hb dX13_force_11 (by decide) (fun _ => ?_) (fun z => absurd (by decide) z)
    refine lv_iconst (v := (-1)) hx hb dX13_force_44 (by decide) ?_
    exact W.iret (v := (-1)) hx hb hr (fun t ht hW => ⟨⟨(-1), (), rfl, rfl, trivial⟩, hS.F ht⟩) hS.2.2 dX13_force_45
set_option maxHeartbeats 500000 in
set_option maxRecDepth 100000 in
theorem kX13_in_3 (l : Launch) (dC : Nat → ClassId) (dI : Nat → Nat → Nat) (sz : Nat) (p0 : Int32) : Met l yX13_in (jk yX13_in cX13_in 3 (some .boolean)) ({ frames := 0, cells := 0, slots := 0, locals := 0 }) (va_Pc [.int p0, .int 0, .int 4] (fun U => U.heap.size = sz)) (va_Qi (fun (r : Int32) (_ : Unit) => (p0 < 0 ∧ r = 0) ∨ (¬ (p0 < 0) ∧ 4 < p0 ∧ r = 0) ∨ (¬ (p0 < 0) ∧ ¬ (4 < p0) ∧ r = 1)) (fun _ _ => True) (va_A [] sz)) 0 0 (va_A [] sz) := by
  refine Met.ofW (cc := cX13_in) (maxL := 3) (ret := (some .boolean)) (by decide) rfl ?_
  intro p e s m args below meth c s₁ B hml hv
  obtain ⟨rfl, hsz⟩ := hv
  have hx := B.exec
  have hb := B.bytes
  have hr := B.returns
  have hts := atoms_spec (ws := (jk yX13_in cX13_in 3 (some .boolean))) B.pre
  have hown : s.vm.findClass RX13 = some m.cls := findClass_of_methodNamed B.named
  have hlocks := B.notSynchronized
  subst hsz
  have hP : va_P (dC, dI) vwCl [] s.heap := fun k q h => by simp at h
  generalize hAe : (va_A [] s.heap.size) = A
  have hA : ∀ q : Nat, s.heap.size ≤ q → A q := fun q h => by rw [← hAe]; exact Or.inr h
  have hS : va_S A s.heap s.heap [] := va_S.rf
  have hl := lv_entry ([.int p0, .int 0, .int 4]) (n := 3) (Nat.le_of_ble_eq_true rfl)
  rw [lg_entry_eq]
  generalize (lg_sl ([.int p0, .int 0, .int 4]) ++ List.replicate (3 - (lg_sl ([.int p0, .int 0, .int 4])).length) Slot.unset).toArray = ls at hl ⊢
  have hl : lv_has ls 3 [(0, .int p0), (1, .int 0), (2, .int 4)] := hl
  refine lv_iload_n hx hb dX13_in_0 rfl (lv_at hl 0 rfl) ?_
  refine lv_iload_n hx hb dX13_in_1 rfl (lv_at hl 1 rfl) ?_
  refine lv_icmp_lt (tgt := 14) hx hb dX13_in_2 (by decide) (fun c_1 => ?_) (fun c_1 => ?_)
  · refine lv_iconst (v := 0) hx hb dX13_in_14 (by decide) ?_
    exact W.zret (v := 0) (ty := .boolean) hx hb hr rfl (fun t ht hW => ⟨⟨0, (), rfl, (Or.inl ⟨c_1, rfl⟩), trivial⟩, hS.F ht⟩) hS.2.2 dX13_in_15
  · refine lv_iload_n hx hb dX13_in_5 rfl (lv_at hl 0 rfl) ?_
    refine lv_iload_n hx hb dX13_in_6 rfl (lv_at hl 2 rfl) ?_
    refine lv_icmp_gt (tgt := 14) hx hb dX13_in_7 (by decide) (fun c_2 => ?_) (fun c_2 => ?_)
    · refine lv_iconst (v := 0) hx hb dX13_in_14 (by decide) ?_
      exact W.zret (v := 0) (ty := .boolean) hx hb hr rfl (fun t ht hW => ⟨⟨0, (), rfl, (Or.inr (Or.inl ⟨c_1, c_2, rfl⟩)), trivial⟩, hS.F ht⟩) hS.2.2 dX13_in_15
    · refine lv_iconst (v := 1) hx hb dX13_in_10 (by decide) ?_
      refine lv_goto (tgt := 15) hx hb dX13_in_11 (by decide) ?_
      exact W.zret (v := 1) (ty := .boolean) hx hb hr rfl (fun t ht hW => ⟨⟨1, (), rfl, (Or.inr (Or.inr ⟨c_1, c_2, rfl⟩)), trivial⟩, hS.F ht⟩) hS.2.2 dX13_in_15
set_option maxHeartbeats 500000 in
set_option maxRecDepth 100000 in
theorem kX13_in_4 (l : Launch) (dC : Nat → ClassId) (dI : Nat → Nat → Nat) (sz : Nat) (p0 : Int32) : Met l yX13_in (jk yX13_in cX13_in 3 (some .boolean)) ({ frames := 0, cells := 0, slots := 0, locals := 0 }) (va_Pc [.int p0, .int 0, .int 6] (fun U => U.heap.size = sz)) (va_Qi (fun (r : Int32) (_ : Unit) => (p0 < 0 ∧ r = 0) ∨ (¬ (p0 < 0) ∧ 6 < p0 ∧ r = 0) ∨ (¬ (p0 < 0) ∧ ¬ (6 < p0) ∧ r = 1)) (fun _ _ => True) (va_A [] sz)) 0 0 (va_A [] sz) := by
  refine Met.ofW (cc := cX13_in) (maxL := 3) (ret := (some .boolean)) (by decide) rfl ?_
  intro p e s m args below meth c s₁ B hml hv
  obtain ⟨rfl, hsz⟩ := hv
  have hx := B.exec
  have hb := B.bytes
  have hr := B.returns
  have hts := atoms_spec (ws := (jk yX13_in cX13_in 3 (some .boolean))) B.pre
  have hown : s.vm.findClass RX13 = some m.cls := findClass_of_methodNamed B.named
  have hlocks := B.notSynchronized
  subst hsz
  have hP : va_P (dC, dI) vwCl [] s.heap := fun k q h => by simp at h
  generalize hAe : (va_A [] s.heap.size) = A
  have hA : ∀ q : Nat, s.heap.size ≤ q → A q := fun q h => by rw [← hAe]; exact Or.inr h
  have hS : va_S A s.heap s.heap [] := va_S.rf
  have hl := lv_entry ([.int p0, .int 0, .int 6]) (n := 3) (Nat.le_of_ble_eq_true rfl)
  rw [lg_entry_eq]
  generalize (lg_sl ([.int p0, .int 0, .int 6]) ++ List.replicate (3 - (lg_sl ([.int p0, .int 0, .int 6])).length) Slot.unset).toArray = ls at hl ⊢
  have hl : lv_has ls 3 [(0, .int p0), (1, .int 0), (2, .int 6)] := hl
  refine lv_iload_n hx hb dX13_in_0 rfl (lv_at hl 0 rfl) ?_
  refine lv_iload_n hx hb dX13_in_1 rfl (lv_at hl 1 rfl) ?_
  refine lv_icmp_lt (tgt := 14) hx hb dX13_in_2 (by decide) (fun c_1 => ?_) (fun c_1 => ?_)
  · refine lv_iconst (v := 0) hx hb dX13_in_14 (by decide) ?_
    exact W.zret (v := 0) (ty := .boolean) hx hb hr rfl (fun t ht hW => ⟨⟨0, (), rfl, (Or.inl ⟨c_1, rfl⟩), trivial⟩, hS.F ht⟩) hS.2.2 dX13_in_15
  · refine lv_iload_n hx hb dX13_in_5 rfl (lv_at hl 0 rfl) ?_
    refine lv_iload_n hx hb dX13_in_6 rfl (lv_at hl 2 rfl) ?_
    refine lv_icmp_gt (tgt := 14) hx hb dX13_in_7 (by decide) (fun c_2 => ?_) (fun c_2 => ?_)
    · refine lv_iconst (v := 0) hx hb dX13_in_14 (by decide) ?_
      exact W.zret (v := 0) (ty := .boolean) hx hb hr rfl (fun t ht hW => ⟨⟨0, (), rfl, (Or.inr (Or.inl ⟨c_1, c_2, rfl⟩)), trivial⟩, hS.F ht⟩) hS.2.2 dX13_in_15
    · refine lv_iconst (v := 1) hx hb dX13_in_10 (by decide) ?_
      refine lv_goto (tgt := 15) hx hb dX13_in_11 (by decide) ?_
      exact W.zret (v := 1) (ty := .boolean) hx hb hr rfl (fun t ht hW => ⟨⟨1, (), rfl, (Or.inr (Or.inr ⟨c_1, c_2, rfl⟩)), trivial⟩, hS.F ht⟩) hS.2.2 dX13_in_15
set_option maxHeartbeats 500000 in
set_option maxRecDepth 100000 in
theorem kX13_inForce_3 (l : Launch) (dC : Nat → ClassId) (dI : Nat → Nat → Nat) (sz : Nat) (ad : Nat → Nat) (ca : Nat → ClassId) (p1 : Int32) (p2 : Int32) (p3 : Int32) : Met l yX13_inForce (jk yX13_inForce cX13_inForce 5 (some .int)) ({ frames := 0, cells := 0, slots := 0, locals := 0 }) (va_Pc [.ref (ad 0), .int p1, .int p2, .int p3] (jw_P (dC, dI) (mW ad ca) (mT ca) sz)) (va_Qi (fun (r : Int32) (_ : Unit) => (r = (-1))) (fun _ _ => True) (va_A [] sz)) 0 0 (va_A [] sz) := by
  refine Met.ofW (cc := cX13_inForce) (maxL := 5) (ret := (some .int)) (by decide) rfl ?_
  intro p e s m args below meth c s₁ B hml hv
  obtain ⟨rfl, hsz, hP, hK, hD0⟩ := hv
  have hx := B.exec
  have hb := B.bytes
  have hr := B.returns
  have hts := atoms_spec (ws := (jk yX13_inForce cX13_inForce 5 (some .int))) B.pre
  have hown : s.vm.findClass RX13 = some m.cls := findClass_of_methodNamed B.named
  have hlocks := B.notSynchronized
  subst hsz
  have hD := hD0
  generalize hAe : (va_A [] s.heap.size) = A
  have hA : ∀ q : Nat, s.heap.size ≤ q → A q := fun q h => by rw [← hAe]; exact Or.inr h
  have hS : va_S A s.heap s.heap [] := va_S.rf
  have hP : va_P (dC, dI) vwCl (mW ad ca) s.heap := hP
  have hl := lv_entry ([.ref (ad 0), .int p1, .int p2, .int p3]) (n := 5) (Nat.le_of_ble_eq_true rfl)
  rw [lg_entry_eq]
  generalize (lg_sl ([.ref (ad 0), .int p1, .int p2, .int p3]) ++ List.replicate (5 - (lg_sl ([.ref (ad 0), .int p1, .int p2, .int p3])).length) Slot.unset).toArray = ls at hl ⊢
  have hl : lv_has ls 5 [(0, .ref (ad 0)), (1, .int p1), (2, .int p2), (3, .int p3)] := hl
  refine lv_aload_n hx hb dX13_inForce_0 rfl (lv_at hl 0 rfl) ?_
  refine va_get (D := (dC, dI)) (ci := 13) (v := .int 0) (C := RX13) (T := TX13) (N := 104) hx hb hts (jh hin_RX13) hown hK hP 0 rfl rfl 26 (by decide) (hts (.fieldLink RX13 380 "BookOfAllModel" "forced" "I") (jm m_526)) (fun _ h9 => h9) rfl dX13_inForce_1 ?_
  refine lv_iconst (v := 1) hx hb dX13_inForce_4 (by decide) ?_
  refine lv_isub hx hb dX13_inForce_5 ?_
  refine jt_i (-1) (by decide) ?_
  refine lv_istore (lv' := [(4, .int (-1)), (0, .ref (ad 0)), (1, .int p1), (2, .int p2), (3, .int p3)]) hx hb dX13_inForce_6 hl (by decide) rfl (fun ls hl => ?_)
  refine lv_iload hx hb dX13_inForce_8 (lv_at hl 0 rfl) ?_
  refine lv_if_lt (tgt := 84) hx hb dX13_inForce_10 (by decide) (fun _ => ?_) (fun z => absurd (by decide) z)
  refine lv_iconst (v := (-1)) hx hb dX13_inForce_84 (by decide) ?_
  exact W.iret (v := (-1)) hx hb hr (fun t ht hW => ⟨⟨(-1), (), rfl, rfl, trivial⟩, hS.F ht⟩) hS.2.2 dX13_inForce_85
set_option maxHeartbeats 1000000 in
set_option maxRecDepth 100000 in
theorem tX13_rule (l : Launch) (dC : Nat → ClassId) (dI : Nat → Nat → Nat) (sz : Nat) (ad : Nat → Nat) (ca : Nat → ClassId) (p1 : Int32) (p2 : Int32) (p3 : Int32) : Met l yX13_rule (jk yX13_rule cX13_rule 5 (some .int)) ({ frames := 1, cells := 0, slots := 0, locals := 24 }) (va_Pc [.ref (ad 0), .int p1, .int p2, .int p3] (jw_P (dC, dI) (mW ad ca) (mT ca) sz)) (va_Qi (fun (r : Int32) (_ : Unit) => (r = (-1))) (fun _ _ => True) (va_A [] sz)) 0 0 (va_A [] sz) := by
  refine Met.ofW (cc := cX13_rule) (maxL := 5) (ret := (some .int)) (by decide) rfl ?_
  intro p e s m args below meth c s₁ B hml hv
  obtain ⟨rfl, hsz, hP, hK, hD0⟩ := hv
  have hx := B.exec
  have hb := B.bytes
  have hr := B.returns
  have hts := atoms_spec (ws := (jk yX13_rule cX13_rule 5 (some .int))) B.pre
  have hown : s.vm.findClass RX13 = some m.cls := findClass_of_methodNamed B.named
  have hlocks := B.notSynchronized
  subst hsz
  have hD := hD0
  generalize hAe : (va_A [] s.heap.size) = A
  have hA : ∀ q : Nat, s.heap.size ≤ q → A q := fun q h => by rw [← hAe]; exact Or.inr h
  have hS : va_S A s.heap s.heap [] := va_S.rf
  have hP : va_P (dC, dI) vwCl (mW ad ca) s.heap := hP
  have hl := lv_entry ([.ref (ad 0), .int p1, .int p2, .int p3]) (n := 5) (Nat.le_of_ble_eq_true rfl)
  rw [lg_entry_eq]
  generalize (lg_sl ([.ref (ad 0), .int p1, .int p2, .int p3]) ++ List.replicate (5 - (lg_sl ([.ref (ad 0), .int p1, .int p2, .int p3])).length) Slot.unset).toArray = ls at hl ⊢
  have hl : lv_has ls 5 [(0, .ref (ad 0)), (1, .int p1), (2, .int p2), (3, .int p3)] := hl
  refine lv_iload_n hx hb dX13_rule_0 rfl (lv_at hl 1 rfl) ?_
  refine lv_iconst (v := 0) hx hb dX13_rule_1 (by decide) ?_
  refine lv_iconst (v := 4) hx hb dX13_rule_2 (by decide) ?_
  refine jc_i (va_runS (As := [.int p1, .int 0, .int 4]) (rest := []) ⟨hx, hb, hml, hown, hts⟩ (kX13_in_3 l dC dI _ p1) (va_cwS 3 hts (jgoodS m_493 m_494 m_96 m_495) rfl rfl rfl (by decide +kernel) ⟨Nat.le_of_ble_eq_true rfl, Nat.le_of_ble_eq_true rfl⟩) ⟨jw_blind0, fun U hU hW => ⟨rfl, congrArg Array.size hU⟩⟩ rfl rfl hl.1 rfl (lv_room (Nat.le_of_ble_eq_true rfl)) dX13_rule_3 ⟨Nat.le_of_ble_eq_true rfl, Nat.le_of_ble_eq_true rfl⟩) hP hS hA (fun r_1 H locs hw_1 hP hS => ?_)
  rcases (show (p1 < 0 ∧ r_1 = 0) ∨ (¬ (p1 < 0) ∧ 4 < p1 ∧ r_1 = 0) ∨ (¬ (p1 < 0) ∧ ¬ (4 < p1) ∧ r_1 = 1) from hw_1) with ⟨c_2, e_2_0⟩ | ⟨c_3, c_4, e_4_1⟩ | ⟨c_5, c_6, e_6_2⟩
  · have e_2_0 := e_2_0.symm
    subst e_2_0
    refine lv_if_eq (tgt := 13) hx hb dX13_rule_6 (by decide) (fun _ => ?_) (fun z => absurd (by decide) z)
    refine lv_iload_n hx hb dX13_rule_13 rfl (lv_at hl 1 rfl) ?_
    refine lv_bipush (v := 10) hx hb dX13_rule_14 (by decide) ?_
    refine lv_icmp_lt (tgt := 53) hx hb dX13_rule_16 (by decide) (fun _ => ?_) (fun z => absurd (jb_lt (jl_lt (d := (-1)) c_2 (by decide)) (by decide)) z)
    refine lv_iconst (v := (-1)) hx hb dX13_rule_53 (by decide) ?_
    refine lv_istore (lv' := [(4, .int (-1)), (0, .ref (ad 0)), (1, .int p1), (2, .int p2), (3, .int p3)]) hx hb dX13_rule_54 hl (by decide) rfl (fun ls hl => ?_)
    refine lv_iload hx hb dX13_rule_56 (lv_at hl 0 rfl) ?_
    refine lv_iconst (v := (-1)) hx hb dX13_rule_58 (by decide) ?_
    refine lv_icmp_eq (tgt := 95) hx hb dX13_rule_59 (by decide) (fun _ => ?_) (fun z => absurd (by decide) z)
    refine lv_iconst (v := (-1)) hx hb dX13_rule_95 (by decide) ?_
    exact W.iret (v := (-1)) hx hb hr (fun t ht hW => ⟨⟨(-1), (), rfl, rfl, trivial⟩, hS.F ht⟩) hS.2.2 dX13_rule_96
  · have e_4_1 := e_4_1.symm
    subst e_4_1
    refine lv_if_eq (tgt := 13) hx hb dX13_rule_6 (by decide) (fun _ => ?_) (fun z => absurd (by decide) z)
    refine lv_iload_n hx hb dX13_rule_13 rfl (lv_at hl 1 rfl) ?_
    refine lv_bipush (v := 10) hx hb dX13_rule_14 (by decide) ?_
    refine lv_icmp_lt (tgt := 53) hx hb dX13_rule_16 (by decide) (fun c_7 => ?_) (fun c_7 => ?_)
    · refine lv_iconst (v := (-1)) hx hb dX13_rule_53 (by decide) ?_
      refine lv_istore (lv' := [(4, .int (-1)), (0, .ref (ad 0)), (1, .int p1), (2, .int p2), (3, .int p3)]) hx hb dX13_rule_54 hl (by decide) rfl (fun ls hl => ?_)
      refine lv_iload hx hb dX13_rule_56 (lv_at hl 0 rfl) ?_
      refine lv_iconst (v := (-1)) hx hb dX13_rule_58 (by decide) ?_
      refine lv_icmp_eq (tgt := 95) hx hb dX13_rule_59 (by decide) (fun _ => ?_) (fun z => absurd (by decide) z)
      refine lv_iconst (v := (-1)) hx hb dX13_rule_95 (by decide) ?_
      exact W.iret (v := (-1)) hx hb hr (fun t ht hW => ⟨⟨(-1), (), rfl, rfl, trivial⟩, hS.F ht⟩) hS.2.2 dX13_rule_96
    · refine lv_iload_n hx hb dX13_rule_19 rfl (lv_at hl 1 rfl) ?_
      refine lv_bipush (v := 10) hx hb dX13_rule_20 (by decide) ?_
      refine lv_idiv hx hb dX13_rule_22 (by decide) ?_
      refine lv_iconst (v := 3) hx hb dX13_rule_23 (by decide) ?_
      refine lv_icmp_gt (tgt := 53) hx hb dX13_rule_24 (by decide) (fun c_8 => ?_) (fun c_8 => ?_)
      · refine lv_iconst (v := (-1)) hx hb dX13_rule_53 (by decide) ?_
        refine lv_istore (lv' := [(4, .int (-1)), (0, .ref (ad 0)), (1, .int p1), (2, .int p2), (3, .int p3)]) hx hb dX13_rule_54 hl (by decide) rfl (fun ls hl => ?_)
        refine lv_iload hx hb dX13_rule_56 (lv_at hl 0 rfl) ?_
        refine lv_iconst (v := (-1)) hx hb dX13_rule_58 (by decide) ?_
        refine lv_icmp_eq (tgt := 95) hx hb dX13_rule_59 (by decide) (fun _ => ?_) (fun z => absurd (by decide) z)
        refine lv_iconst (v := (-1)) hx hb dX13_rule_95 (by decide) ?_
        exact W.iret (v := (-1)) hx hb hr (fun t ht hW => ⟨⟨(-1), (), rfl, rfl, trivial⟩, hS.F ht⟩) hS.2.2 dX13_rule_96
      · refine lv_iload_n hx hb dX13_rule_27 rfl (lv_at hl 1 rfl) ?_
        refine lv_bipush (v := 10) hx hb dX13_rule_28 (by decide) ?_
        refine lv_irem hx hb dX13_rule_30 (by decide) ?_
        refine lv_iconst (v := 2) hx hb dX13_rule_31 (by decide) ?_
        refine lv_icmp_gt (tgt := 53) hx hb dX13_rule_32 (by decide) (fun c_9 => ?_) (fun c_9 => ?_)
        · refine lv_iconst (v := (-1)) hx hb dX13_rule_53 (by decide) ?_
          refine lv_istore (lv' := [(4, .int (-1)), (0, .ref (ad 0)), (1, .int p1), (2, .int p2), (3, .int p3)]) hx hb dX13_rule_54 hl (by decide) rfl (fun ls hl => ?_)
          refine lv_iload hx hb dX13_rule_56 (lv_at hl 0 rfl) ?_
          refine lv_iconst (v := (-1)) hx hb dX13_rule_58 (by decide) ?_
          refine lv_icmp_eq (tgt := 95) hx hb dX13_rule_59 (by decide) (fun _ => ?_) (fun z => absurd (by decide) z)
          refine lv_iconst (v := (-1)) hx hb dX13_rule_95 (by decide) ?_
          exact W.iret (v := (-1)) hx hb hr (fun t ht hW => ⟨⟨(-1), (), rfl, rfl, trivial⟩, hS.F ht⟩) hS.2.2 dX13_rule_96
        · refine lv_iconst (v := 5) hx hb dX13_rule_35 (by decide) ?_
          refine lv_iconst (v := 3) hx hb dX13_rule_36 (by decide) ?_
          refine lv_iload_n hx hb dX13_rule_37 rfl (lv_at hl 1 rfl) ?_
          refine lv_bipush (v := 10) hx hb dX13_rule_38 (by decide) ?_
          refine lv_idiv hx hb dX13_rule_40 (by decide) ?_
          refine lv_iconst (v := 1) hx hb dX13_rule_41 (by decide) ?_
          refine lv_isub hx hb dX13_rule_42 ?_
          refine lv_imul hx hb dX13_rule_43 ?_
          refine lv_iadd hx hb dX13_rule_44 ?_
          refine lv_iload_n hx hb dX13_rule_45 rfl (lv_at hl 1 rfl) ?_
          refine lv_bipush (v := 10) hx hb dX13_rule_46 (by decide) ?_
          refine lv_irem hx hb dX13_rule_48 (by decide) ?_
          refine lv_iadd hx hb dX13_rule_49 ?_
          refine lv_goto (tgt := 54) hx hb dX13_rule_50 (by decide) ?_
          refine lv_istore (lv' := [(4, .int ((5 + (3 * ((p1 / 10) - 1))) + (p1 - p1 / 10 * 10))), (0, .ref (ad 0)), (1, .int p1), (2, .int p2), (3, .int p3)]) hx hb dX13_rule_54 hl (by decide) rfl (fun ls hl => ?_)
          refine lv_iload hx hb dX13_rule_56 (lv_at hl 0 rfl) ?_
          refine lv_iconst (v := (-1)) hx hb dX13_rule_58 (by decide) ?_
          refine lv_icmp_eq (tgt := 95) hx hb dX13_rule_59 (by decide) (fun c_10 => ?_) (fun c_10 => ?_)
          · refine lv_iconst (v := (-1)) hx hb dX13_rule_95 (by decide) ?_
            exact W.iret (v := (-1)) hx hb hr (fun t ht hW => ⟨⟨(-1), (), rfl, rfl, trivial⟩, hS.F ht⟩) hS.2.2 dX13_rule_96
          · refine lv_iload_n hx hb dX13_rule_62 rfl (lv_at hl 3 rfl) ?_
            refine lv_iconst (v := 0) hx hb dX13_rule_63 (by decide) ?_
            refine lv_bipush (v := 6) hx hb dX13_rule_64 (by decide) ?_
            refine jc_i (va_runS (As := [.int p2, .int 0, .int 6]) (rest := []) ⟨hx, hb, hml, hown, hts⟩ (kX13_in_4 l dC dI _ p2) (va_cwS 3 hts (jgoodS m_493 m_494 m_96 m_495) rfl rfl rfl (by decide +kernel) ⟨Nat.le_of_ble_eq_true rfl, Nat.le_of_ble_eq_true rfl⟩) ⟨jw_blind0, fun U hU hW => ⟨rfl, congrArg Array.size hU⟩⟩ rfl rfl hl.1 rfl (lv_room (Nat.le_of_ble_eq_true rfl)) dX13_rule_66 ⟨Nat.le_of_ble_eq_true rfl, Nat.le_of_ble_eq_true rfl⟩) hP hS hA (fun r_11 H locs hw_11 hP hS => ?_)
            rcases (show (p2 < 0 ∧ r_11 = 0) ∨ (¬ (p2 < 0) ∧ 6 < p2 ∧ r_11 = 0) ∨ (¬ (p2 < 0) ∧ ¬ (6 < p2) ∧ r_11 = 1) from hw_11) with ⟨c_12, e_12_0⟩ | ⟨c_13, c_14, e_14_1⟩ | ⟨c_15, c_16, e_16_2⟩
            · have e_12_0 := e_12_0.symm
              subst e_12_0
              refine lv_if_eq (tgt := 95) hx hb dX13_rule_69 (by decide) (fun _ => ?_) (fun z => absurd (by decide) z)
              refine lv_iconst (v := (-1)) hx hb dX13_rule_95 (by decide) ?_
              exact W.iret (v := (-1)) hx hb hr (fun t ht hW => ⟨⟨(-1), (), rfl, rfl, trivial⟩, hS.F ht⟩) hS.2.2 dX13_rule_96
            · have e_14_1 := e_14_1.symm
              subst e_14_1
              refine lv_if_eq (tgt := 95) hx hb dX13_rule_69 (by decide) (fun _ => ?_) (fun z => absurd (by decide) z)
              refine lv_iconst (v := (-1)) hx hb dX13_rule_95 (by decide) ?_
              exact W.iret (v := (-1)) hx hb hr (fun t ht hW => ⟨⟨(-1), (), rfl, rfl, trivial⟩, hS.F ht⟩) hS.2.2 dX13_rule_96
            · have e_16_2 := e_16_2.symm
              subst e_16_2
              refine lv_if_eq (tgt := 95) hx hb dX13_rule_69 (by decide) (fun z => absurd z (by decide)) (fun _ => ?_)
              refine lv_iload_n hx hb dX13_rule_72 rfl (lv_at hl 4 rfl) ?_
              refine lv_iconst (v := 0) hx hb dX13_rule_73 (by decide) ?_
              refine lv_aload_n hx hb dX13_rule_74 rfl (lv_at hl 1 rfl) ?_
              refine va_get (D := (dC, dI)) (ci := 13) (v := .int 0) (C := RX13) (T := TX13) (N := 104) hx hb hts (jh hin_RX13) hown hK hP 0 rfl rfl 30 (by decide) (hts (.fieldLink RX13 383 "BookOfAllModel" "now" "I") (jm m_525)) (fun _ h9 => h9) rfl dX13_rule_75 ?_
              refine jc_i (va_runS (As := [.int p3, .int 0, .int 0]) (rest := []) ⟨hx, hb, hml, hown, hts⟩ (kX13_in_1 l dC dI _ p3) (va_cwS 3 hts (jgoodS m_493 m_494 m_96 m_495) rfl rfl rfl (by decide +kernel) ⟨Nat.le_of_ble_eq_true rfl, Nat.le_of_ble_eq_true rfl⟩) ⟨jw_blind0, fun U hU hW => ⟨rfl, congrArg Array.size hU⟩⟩ rfl rfl hl.1 rfl (lv_room (Nat.le_of_ble_eq_true rfl)) dX13_rule_78 ⟨Nat.le_of_ble_eq_true rfl, Nat.le_of_ble_eq_true rfl⟩) hP hS hA (fun r_17 H locs hw_17 hP hS => ?_)
              rcases (show (p3 < 0 ∧ r_17 = 0) ∨ (¬ (p3 < 0) ∧ 0 < p3 ∧ r_17 = 0) ∨ (¬ (p3 < 0) ∧ ¬ (0 < p3) ∧ r_17 = 1) from hw_17) with ⟨c_18, e_18_0⟩ | ⟨c_19, c_20, e_20_1⟩ | ⟨c_21, c_22, e_22_2⟩
              · have e_18_0 := e_18_0.symm
                subst e_18_0
                refine lv_if_eq (tgt := 95) hx hb dX13_rule_81 (by decide) (fun _ => ?_) (fun z => absurd (by decide) z)
                refine lv_iconst (v := (-1)) hx hb dX13_rule_95 (by decide) ?_
                exact W.iret (v := (-1)) hx hb hr (fun t ht hW => ⟨⟨(-1), (), rfl, rfl, trivial⟩, hS.F ht⟩) hS.2.2 dX13_rule_96
              · have e_20_1 := e_20_1.symm
                subst e_20_1
                refine lv_if_eq (tgt := 95) hx hb dX13_rule_81 (by decide) (fun _ => ?_) (fun z => absurd (by decide) z)
                refine lv_iconst (v := (-1)) hx hb dX13_rule_95 (by decide) ?_
                exact W.iret (v := (-1)) hx hb hr (fun t ht hW => ⟨⟨(-1), (), rfl, rfl, trivial⟩, hS.F ht⟩) hS.2.2 dX13_rule_96
              · have e_22_2 := e_22_2.symm
                subst e_22_2
                refine lv_if_eq (tgt := 95) hx hb dX13_rule_81 (by decide) (fun z => absurd z (by decide)) (fun _ => ?_)
                refine lv_aload_n hx hb dX13_rule_84 rfl (lv_at hl 1 rfl) ?_
                refine lv_iload hx hb dX13_rule_85 (lv_at hl 0 rfl) ?_
                refine lv_iload_n hx hb dX13_rule_87 rfl (lv_at hl 3 rfl) ?_
                refine lv_iload_n hx hb dX13_rule_88 rfl (lv_at hl 4 rfl) ?_
                refine jc_i (va_runV (As := [.int ((5 + (3 * ((p1 / 10) - 1))) + (p1 - p1 / 10 * 10)), .int p2, .int p3]) (rest := []) ⟨hx, hb, hml, hown, hts⟩ (kX13_inForce_3 l dC dI _ ad ca ((5 + (3 * ((p1 / 10) - 1))) + (p1 - p1 / 10 * 10)) p2 p3) (cwV 3 hts (jgoodV m_527 m_528 m_529 m_96 m_530) rfl rfl rfl (by decide +kernel) ⟨Nat.le_of_ble_eq_true rfl, Nat.le_of_ble_eq_true rfl⟩) ⟨jw_blind, va_recv hK hP (ci := 13) (q0 := 0) rfl rfl, fun U hU hW => ⟨rfl, jw_of hU hW hP hK hD⟩⟩ rfl rfl hl.1 rfl (lv_room (Nat.le_of_ble_eq_true rfl)) dX13_rule_89 ⟨Nat.le_of_ble_eq_true rfl, Nat.le_of_ble_eq_true rfl⟩) hP hS hA (fun r_23 H locs hw_23 hP hS => ?_)
                have hw_23 : (-1) = r_23 := Eq.symm hw_23
                subst hw_23
                refine lv_goto (tgt := 96) hx hb dX13_rule_92 (by decide) ?_
                exact W.iret (v := (-1)) hx hb hr (fun t ht hW => ⟨⟨(-1), (), rfl, rfl, trivial⟩, hS.F ht⟩) hS.2.2 dX13_rule_96
  · have e_6_2 := e_6_2.symm
    subst e_6_2
    refine lv_if_eq (tgt := 13) hx hb dX13_rule_6 (by decide) (fun z => absurd z (by decide)) (fun _ => ?_)
    refine lv_iload_n hx hb dX13_rule_9 rfl (lv_at hl 1 rfl) ?_
    refine lv_goto (tgt := 54) hx hb dX13_rule_10 (by decide) ?_
    refine lv_istore (lv' := [(4, .int p1), (0, .ref (ad 0)), (1, .int p1), (2, .int p2), (3, .int p3)]) hx hb dX13_rule_54 hl (by decide) rfl (fun ls hl => ?_)
    refine lv_iload hx hb dX13_rule_56 (lv_at hl 0 rfl) ?_
    refine lv_iconst (v := (-1)) hx hb dX13_rule_58 (by decide) ?_
    refine lv_icmp_eq (tgt := 95) hx hb dX13_rule_59 (by decide) (fun z => absurd z (jb_ne2 (jl_nlt c_5) (by decide))) (fun _ => ?_)
    refine lv_iload_n hx hb dX13_rule_62 rfl (lv_at hl 3 rfl) ?_
    refine lv_iconst (v := 0) hx hb dX13_rule_63 (by decide) ?_
    refine lv_bipush (v := 6) hx hb dX13_rule_64 (by decide) ?_
    refine jc_i (va_runS (As := [.int p2, .int 0, .int 6]) (rest := []) ⟨hx, hb, hml, hown, hts⟩ (kX13_in_4 l dC dI _ p2) (va_cwS 3 hts (jgoodS m_493 m_494 m_96 m_495) rfl rfl rfl (by decide +kernel) ⟨Nat.le_of_ble_eq_true rfl, Nat.le_of_ble_eq_true rfl⟩) ⟨jw_blind0, fun U hU hW => ⟨rfl, congrArg Array.size hU⟩⟩ rfl rfl hl.1 rfl (lv_room (Nat.le_of_ble_eq_true rfl)) dX13_rule_66 ⟨Nat.le_of_ble_eq_true rfl, Nat.le_of_ble_eq_true rfl⟩) hP hS hA (fun r_24 H locs hw_24 hP hS => ?_)
    rcases (show (p2 < 0 ∧ r_24 = 0) ∨ (¬ (p2 < 0) ∧ 6 < p2 ∧ r_24 = 0) ∨ (¬ (p2 < 0) ∧ ¬ (6 < p2) ∧ r_24 = 1) from hw_24) with ⟨c_25, e_25_0⟩ | ⟨c_26, c_27, e_27_1⟩ | ⟨c_28, c_29, e_29_2⟩
    · have e_25_0 := e_25_0.symm
      subst e_25_0
      refine lv_if_eq (tgt := 95) hx hb dX13_rule_69 (by decide) (fun _ => ?_) (fun z => absurd (by decide) z)
      refine lv_iconst (v := (-1)) hx hb dX13_rule_95 (by decide) ?_
      exact W.iret (v := (-1)) hx hb hr (fun t ht hW => ⟨⟨(-1), (), rfl, rfl, trivial⟩, hS.F ht⟩) hS.2.2 dX13_rule_96
    · have e_27_1 := e_27_1.symm
      subst e_27_1
      refine lv_if_eq (tgt := 95) hx hb dX13_rule_69 (by decide) (fun _ => ?_) (fun z => absurd (by decide) z)
      refine lv_iconst (v := (-1)) hx hb dX13_rule_95 (by decide) ?_
      exact W.iret (v := (-1)) hx hb hr (fun t ht hW => ⟨⟨(-1), (), rfl, rfl, trivial⟩, hS.F ht⟩) hS.2.2 dX13_rule_96
    · have e_29_2 := e_29_2.symm
      subst e_29_2
      refine lv_if_eq (tgt := 95) hx hb dX13_rule_69 (by decide) (fun z => absurd z (by decide)) (fun _ => ?_)
      refine lv_iload_n hx hb dX13_rule_72 rfl (lv_at hl 4 rfl) ?_
      refine lv_iconst (v := 0) hx hb dX13_rule_73 (by decide) ?_
      refine lv_aload_n hx hb dX13_rule_74 rfl (lv_at hl 1 rfl) ?_
      refine va_get (D := (dC, dI)) (ci := 13) (v := .int 0) (C := RX13) (T := TX13) (N := 104) hx hb hts (jh hin_RX13) hown hK hP 0 rfl rfl 30 (by decide) (hts (.fieldLink RX13 383 "BookOfAllModel" "now" "I") (jm m_525)) (fun _ h9 => h9) rfl dX13_rule_75 ?_
      refine jc_i (va_runS (As := [.int p3, .int 0, .int 0]) (rest := []) ⟨hx, hb, hml, hown, hts⟩ (kX13_in_1 l dC dI _ p3) (va_cwS 3 hts (jgoodS m_493 m_494 m_96 m_495) rfl rfl rfl (by decide +kernel) ⟨Nat.le_of_ble_eq_true rfl, Nat.le_of_ble_eq_true rfl⟩) ⟨jw_blind0, fun U hU hW => ⟨rfl, congrArg Array.size hU⟩⟩ rfl rfl hl.1 rfl (lv_room (Nat.le_of_ble_eq_true rfl)) dX13_rule_78 ⟨Nat.le_of_ble_eq_true rfl, Nat.le_of_ble_eq_true rfl⟩) hP hS hA (fun r_30 H locs hw_30 hP hS => ?_)
      rcases (show (p3 < 0 ∧ r_30 = 0) ∨ (¬ (p3 < 0) ∧ 0 < p3 ∧ r_30 = 0) ∨ (¬ (p3 < 0) ∧ ¬ (0 < p3) ∧ r_30 = 1) from hw_30) with ⟨c_31, e_31_0⟩ | ⟨c_32, c_33, e_33_1⟩ | ⟨c_34, c_35, e_35_2⟩
      · have e_31_0 := e_31_0.symm
        subst e_31_0
        refine lv_if_eq (tgt := 95) hx hb dX13_rule_81 (by decide) (fun _ => ?_) (fun z => absurd (by decide) z)
        refine lv_iconst (v := (-1)) hx hb dX13_rule_95 (by decide) ?_
        exact W.iret (v := (-1)) hx hb hr (fun t ht hW => ⟨⟨(-1), (), rfl, rfl, trivial⟩, hS.F ht⟩) hS.2.2 dX13_rule_96
      · have e_33_1 := e_33_1.symm
        subst e_33_1
        refine lv_if_eq (tgt := 95) hx hb dX13_rule_81 (by decide) (fun _ => ?_) (fun z => absurd (by decide) z)
        refine lv_iconst (v := (-1)) hx hb dX13_rule_95 (by decide) ?_
        exact W.iret (v := (-1)) hx hb hr (fun t ht hW => ⟨⟨(-1), (), rfl, rfl, trivial⟩, hS.F ht⟩) hS.2.2 dX13_rule_96
      · have e_35_2 := e_35_2.symm
        subst e_35_2
        refine lv_if_eq (tgt := 95) hx hb dX13_rule_81 (by decide) (fun z => absurd z (by decide)) (fun _ => ?_)
        refine lv_aload_n hx hb dX13_rule_84 rfl (lv_at hl 1 rfl) ?_
        refine lv_iload hx hb dX13_rule_85 (lv_at hl 0 rfl) ?_
        refine lv_iload_n hx hb dX13_rule_87 rfl (lv_at hl 3 rfl) ?_
        refine lv_iload_n hx hb dX13_rule_88 rfl (lv_at hl 4 rfl) ?_
        refine jc_i (va_runV (As := [.int p1, .int p2, .int p3]) (rest := []) ⟨hx, hb, hml, hown, hts⟩ (kX13_inForce_3 l dC dI _ ad ca p1 p2 p3) (cwV 3 hts (jgoodV m_527 m_528 m_529 m_96 m_530) rfl rfl rfl (by decide +kernel) ⟨Nat.le_of_ble_eq_true rfl, Nat.le_of_ble_eq_true rfl⟩) ⟨jw_blind, va_recv hK hP (ci := 13) (q0 := 0) rfl rfl, fun U hU hW => ⟨rfl, jw_of hU hW hP hK hD⟩⟩ rfl rfl hl.1 rfl (lv_room (Nat.le_of_ble_eq_true rfl)) dX13_rule_89 ⟨Nat.le_of_ble_eq_true rfl, Nat.le_of_ble_eq_true rfl⟩) hP hS hA (fun r_36 H locs hw_36 hP hS => ?_)
        have hw_36 : (-1) = r_36 := Eq.symm hw_36
        subst hw_36
        refine lv_goto (tgt := 96) hx hb dX13_rule_92 (by decide) ?_
        exact W.iret (v := (-1)) hx hb hr (fun t ht hW => ⟨⟨(-1), (), rfl, rfl, trivial⟩, hS.F ht⟩) hS.2.2 dX13_rule_96
set_option maxHeartbeats 500000 in
set_option maxRecDepth 100000 in
theorem kX13_in_5 (l : Launch) (dC : Nat → ClassId) (dI : Nat → Nat → Nat) (sz : Nat) (p0 : Int32) : Met l yX13_in (jk yX13_in cX13_in 3 (some .boolean)) ({ frames := 0, cells := 0, slots := 0, locals := 0 }) (va_Pc [.int p0, .int 0, .int 300] (fun U => U.heap.size = sz)) (va_Qi (fun (r : Int32) (_ : Unit) => (p0 < 0 ∧ r = 0) ∨ (¬ (p0 < 0) ∧ 300 < p0 ∧ r = 0) ∨ (¬ (p0 < 0) ∧ ¬ (300 < p0) ∧ r = 1)) (fun _ _ => True) (va_A [] sz)) 0 0 (va_A [] sz) := by
  refine Met.ofW (cc := cX13_in) (maxL := 3) (ret := (some .boolean)) (by decide) rfl ?_
  intro p e s m args below meth c s₁ B hml hv
  obtain ⟨rfl, hsz⟩ := hv
  have hx := B.exec
  have hb := B.bytes
  have hr := B.returns
  have hts := atoms_spec (ws := (jk yX13_in cX13_in 3 (some .boolean))) B.pre
  have hown : s.vm.findClass RX13 = some m.cls := findClass_of_methodNamed B.named
  have hlocks := B.notSynchronized
  subst hsz
  have hP : va_P (dC, dI) vwCl [] s.heap := fun k q h => by simp at h
  generalize hAe : (va_A [] s.heap.size) = A
  have hA : ∀ q : Nat, s.heap.size ≤ q → A q := fun q h => by rw [← hAe]; exact Or.inr h
  have hS : va_S A s.heap s.heap [] := va_S.rf
  have hl := lv_entry ([.int p0, .int 0, .int 300]) (n := 3) (Nat.le_of_ble_eq_true rfl)
  rw [lg_entry_eq]
  generalize (lg_sl ([.int p0, .int 0, .int 300]) ++ List.replicate (3 - (lg_sl ([.int p0, .int 0, .int 300])).length) Slot.unset).toArray = ls at hl ⊢
  have hl : lv_has ls 3 [(0, .int p0), (1, .int 0), (2, .int 300)] := hl
  refine lv_iload_n hx hb dX13_in_0 rfl (lv_at hl 0 rfl) ?_
  refine lv_iload_n hx hb dX13_in_1 rfl (lv_at hl 1 rfl) ?_
  refine lv_icmp_lt (tgt := 14) hx hb dX13_in_2 (by decide) (fun c_1 => ?_) (fun c_1 => ?_)
  · refine lv_iconst (v := 0) hx hb dX13_in_14 (by decide) ?_
    exact W.zret (v := 0) (ty := .boolean) hx hb hr rfl (fun t ht hW => ⟨⟨0, (), rfl, (Or.inl ⟨c_1, rfl⟩), trivial⟩, hS.F ht⟩) hS.2.2 dX13_in_15
  · refine lv_iload_n hx hb dX13_in_5 rfl (lv_at hl 0 rfl) ?_
    refine lv_iload_n hx hb dX13_in_6 rfl (lv_at hl 2 rfl) ?_
    refine lv_icmp_gt (tgt := 14) hx hb dX13_in_7 (by decide) (fun c_2 => ?_) (fun c_2 => ?_)
    · refine lv_iconst (v := 0) hx hb dX13_in_14 (by decide) ?_
      exact W.zret (v := 0) (ty := .boolean) hx hb hr rfl (fun t ht hW => ⟨⟨0, (), rfl, (Or.inr (Or.inl ⟨c_1, c_2, rfl⟩)), trivial⟩, hS.F ht⟩) hS.2.2 dX13_in_15
    · refine lv_iconst (v := 1) hx hb dX13_in_10 (by decide) ?_
      refine lv_goto (tgt := 15) hx hb dX13_in_11 (by decide) ?_
      exact W.zret (v := 1) (ty := .boolean) hx hb hr rfl (fun t ht hW => ⟨⟨1, (), rfl, (Or.inr (Or.inr ⟨c_1, c_2, rfl⟩)), trivial⟩, hS.F ht⟩) hS.2.2 dX13_in_15
