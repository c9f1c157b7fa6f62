theorem s_tX13_go_0 {p1 : Int32} (c_2 : p1 < 0) : (-1) = sp_go p1 := by
  unfold sp_go
  have g0 : p1.toInt < 0 := ji_lt.mp c_2
  split <;> first | rfl | (exfalso; omega)
theorem s_tX13_go_1 {p1 : Int32} (c_3 : ¬ (p1 < 0)) (c_4 : 300 < p1) : (-1) = sp_go p1 := by
  unfold sp_go
  have g0 : ¬ (p1.toInt < 0) := fun z => c_3 (ji_lt.mpr z)
  have g1 : 300 < p1.toInt := ji_lt.mp c_4
  split <;> first | rfl | (exfalso; omega)
theorem s_tX13_go_2 {p1 : Int32} (c_5 : ¬ (p1 < 0)) (c_6 : ¬ (300 < p1)) : p1 = sp_go p1 := by
  unfold sp_go
  have g0 : ¬ (p1.toInt < 0) := fun z => c_5 (ji_lt.mpr z)
  have g1 : ¬ (300 < p1.toInt) := fun z => c_6 (ji_lt.mpr z)
  split <;> first | rfl | (exfalso; omega)
set_option maxHeartbeats 500000 in
set_option maxRecDepth 100000 in
theorem tX13_go (l : Launch) (dC : Nat → ClassId) (dI : Nat → Nat → Nat) (sz : Nat) (ad : Nat → Nat) (ca : Nat → ClassId) (p1 : Int32) : Met l yX13_go (jk yX13_go cX13_go 2 (some .int)) ({ frames := 1, cells := 0, slots := 0, locals := 22 }) (va_Pc [.ref (ad 0), .int p1] (jw_P (dC, dI) (mW ad ca) (mT ca) sz)) (va_Qi (fun (r : Int32) (_ : Unit) => r = sp_go p1) (fun _ _ => True) (va_A (mW ad ca) sz)) 0 0 (va_A (mW ad ca) sz) := by
  refine Met.ofW (cc := cX13_go) (maxL := 2) (ret := (some .int)) (by decide) rfl ?_
  intro p e s m args below meth c s₁ B hml hv
  obtain ⟨rfl, hsz, hP, hK, hD0⟩ := hv
  have hx := B.exec
  have hb := B.bytes
  have hr := B.returns
  have hts := atoms_spec (ws := (jk yX13_go cX13_go 2 (some .int))) B.pre
  have hown : s.vm.findClass RX13 = some m.cls := findClass_of_methodNamed B.named
  have hlocks := B.notSynchronized
  subst hsz
  have hD := hD0.self (sz := s.heap.size)
  generalize hAe : (va_A (mW ad ca) s.heap.size) = A at hD ⊢
  have hA : ∀ q : Nat, s.heap.size ≤ q → A q := fun q h => by rw [← hAe]; exact Or.inr h
  have hS : va_S A s.heap s.heap [] := va_S.rf
  have hP : va_P (dC, dI) vwCl (mW ad ca) s.heap := hP
  have hl := lv_entry ([.ref (ad 0), .int p1]) (n := 2) (Nat.le_of_ble_eq_true rfl)
  rw [lg_entry_eq]
  generalize (lg_sl ([.ref (ad 0), .int p1]) ++ List.replicate (2 - (lg_sl ([.ref (ad 0), .int p1])).length) Slot.unset).toArray = ls at hl ⊢
  have hl : lv_has ls 2 [(0, .ref (ad 0)), (1, .int p1)] := hl
  refine lv_iload_n hx hb dX13_go_0 rfl (lv_at hl 1 rfl) ?_
  refine lv_iconst (v := 0) hx hb dX13_go_1 (by decide) ?_
  refine lv_sipush (v := 300) hx hb dX13_go_2 (by decide) ?_
  refine jc_i (va_runS (As := [.int p1, .int 0, .int 300]) (rest := []) ⟨hx, hb, hml, hown, hts⟩ (kX13_in_5 l dC dI _ p1) (va_cwS 3 hts (jgoodS m_493 m_494 m_96 m_495) rfl rfl rfl (by decide +kernel) ⟨Nat.le_of_ble_eq_true rfl, Nat.le_of_ble_eq_true rfl⟩) ⟨jw_blind0, fun U hU hW => ⟨rfl, congrArg Array.size hU⟩⟩ rfl rfl hl.1 rfl (lv_room (Nat.le_of_ble_eq_true rfl)) dX13_go_5 ⟨Nat.le_of_ble_eq_true rfl, Nat.le_of_ble_eq_true rfl⟩) hP hS hA (fun r_1 H locs hw_1 hP hS => ?_)
  rcases (show (p1 < 0 ∧ r_1 = 0) ∨ (¬ (p1 < 0) ∧ 300 < p1 ∧ r_1 = 0) ∨ (¬ (p1 < 0) ∧ ¬ (300 < p1) ∧ r_1 = 1) from hw_1) with ⟨c_2, e_2_0⟩ | ⟨c_3, c_4, e_4_1⟩ | ⟨c_5, c_6, e_6_2⟩
  · have e_2_0 := e_2_0.symm
    subst e_2_0
    refine lv_if_ne (tgt := 13) hx hb dX13_go_8 (by decide) (fun z => absurd (by decide) z) (fun _ => ?_)
    refine lv_iconst (v := (-1)) hx hb dX13_go_11 (by decide) ?_
    exact W.iret (v := (-1)) hx hb hr (fun t ht hW => ⟨⟨(-1), (), rfl, (s_tX13_go_0 (p1 := p1) c_2), trivial⟩, hS.F ht⟩) hS.2.2 dX13_go_12
  · have e_4_1 := e_4_1.symm
    subst e_4_1
    refine lv_if_ne (tgt := 13) hx hb dX13_go_8 (by decide) (fun z => absurd (by decide) z) (fun _ => ?_)
    refine lv_iconst (v := (-1)) hx hb dX13_go_11 (by decide) ?_
    exact W.iret (v := (-1)) hx hb hr (fun t ht hW => ⟨⟨(-1), (), rfl, (s_tX13_go_1 (p1 := p1) c_3 c_4), trivial⟩, hS.F ht⟩) hS.2.2 dX13_go_12
  · have e_6_2 := e_6_2.symm
    subst e_6_2
    refine lv_if_ne (tgt := 13) hx hb dX13_go_8 (by decide) (fun _ => ?_) (fun z => absurd z (by decide))
    refine lv_aload_n hx hb dX13_go_13 rfl (lv_at hl 0 rfl) ?_
    refine lv_aload_n hx hb dX13_go_14 rfl (lv_at hl 0 rfl) ?_
    refine va_get (D := (dC, dI)) (ci := 13) (v := .int 0) (C := RX13) (T := TX13) (N := 104) hx hb hts (jh hin_RX13) hown hK hP 0 rfl rfl 30 (by decide) (hts (.fieldLink RX13 383 "BookOfAllModel" "now" "I") (jm m_525)) (fun _ h9 => h9) rfl dX13_go_15 ?_
    refine lv_iload_n hx hb dX13_go_18 rfl (lv_at hl 1 rfl) ?_
    refine lv_iadd hx hb dX13_go_19 ?_
    refine jt_i p1 (Int32.zero_add _) ?_
    refine lv_sipush (v := 2000) hx hb dX13_go_20 (by decide) ?_
    refine lv_icmp_le (tgt := 32) hx hb dX13_go_23 (by decide) (fun _ => ?_) (fun z => absurd (jb_le (jl_ngt c_6) (by decide)) z)
    refine lv_aload_n hx hb dX13_go_32 rfl (lv_at hl 0 rfl) ?_
    refine va_get (D := (dC, dI)) (ci := 13) (v := .int 0) (C := RX13) (T := TX13) (N := 104) hx hb hts (jh hin_RX13) hown hK hP 0 rfl rfl 30 (by decide) (hts (.fieldLink RX13 383 "BookOfAllModel" "now" "I") (jm m_525)) (fun _ h9 => h9) rfl dX13_go_33 ?_
    refine lv_iload_n hx hb dX13_go_36 rfl (lv_at hl 1 rfl) ?_
    refine lv_iadd hx hb dX13_go_37 ?_
    refine jt_i p1 (Int32.zero_add _) ?_
    refine va_put (D := (dC, dI)) (ci := 13) (v := .int p1) (ty := .int) (C := RX13) (T := TX13) (N := 104) hx hb hts (jh hin_RX13) tyX13 tyX13_ok nmX13 hown hK hP hD hS 0 rfl rfl 30 (by decide) (hts (.fieldLink RX13 383 "BookOfAllModel" "now" "I") (jm m_525)) (fun _ h9 => h9) rfl (by decide +kernel) rfl rfl (Nat.le_of_ble_eq_true rfl) dX13_go_38 (fun H locs hP hD hS => ?_)
    refine lv_aload_n hx hb dX13_go_41 rfl (lv_at hl 0 rfl) ?_
    refine va_get (D := (dC, dI)) (ci := 13) (v := .int p1) (C := RX13) (T := TX13) (N := 104) hx hb hts (jh hin_RX13) hown hK hP 0 rfl rfl 30 (by decide) (hts (.fieldLink RX13 383 "BookOfAllModel" "now" "I") (jm m_525)) (fun _ h9 => h9) rfl dX13_go_42 ?_
    exact W.iret (v := p1) hx hb hr (fun t ht hW => ⟨⟨p1, (), rfl, (s_tX13_go_2 (p1 := p1) c_5 c_6), trivial⟩, hS.F ht⟩) hS.2.2 dX13_go_45
set_option maxHeartbeats 500000 in
set_option maxRecDepth 100000 in
theorem kX13_in_6 (l : Launch) (dC : Nat → ClassId) (dI : Nat → Nat → Nat) (sz : Nat) : Met l yX13_in (jk yX13_in cX13_in 3 (some .boolean)) ({ frames := 0, cells := 0, slots := 0, locals := 0 }) (va_Pc [.int 0, .int 0, .int 4] (fun U => U.heap.size = sz)) (va_Qi (fun (r : Int32) (_ : Unit) => (r = 1)) (fun _ _ => True) (va_A [] sz)) 0 0 (va_A [] sz) := by
  refine Met.ofW (cc := cX13_in) (maxL := 3) (ret := (some .boolean)) (by decide) rfl ?_
  intro p e s m args below meth c s₁ B hml hv
  obtain ⟨rfl, hsz⟩ := hv
  have hx := B.exec
  have hb := B.bytes
  have hr := B.returns
  have hts := atoms_spec (ws := (jk yX13_in cX13_in 3 (some .boolean))) B.pre
  have hown : s.vm.findClass RX13 = some m.cls := findClass_of_methodNamed B.named
  have hlocks := B.notSynchronized
  subst hsz
  have hP : va_P (dC, dI) vwCl [] s.heap := fun k q h => by simp at h
  generalize hAe : (va_A [] s.heap.size) = A
  have hA : ∀ q : Nat, s.heap.size ≤ q → A q := fun q h => by rw [← hAe]; exact Or.inr h
  have hS : va_S A s.heap s.heap [] := va_S.rf
  have hl := lv_entry ([.int 0, .int 0, .int 4]) (n := 3) (Nat.le_of_ble_eq_true rfl)
  rw [lg_entry_eq]
  generalize (lg_sl ([.int 0, .int 0, .int 4]) ++ List.replicate (3 - (lg_sl ([.int 0, .int 0, .int 4])).length) Slot.unset).toArray = ls at hl ⊢
  have hl : lv_has ls 3 [(0, .int 0), (1, .int 0), (2, .int 4)] := hl
  refine lv_iload_n hx hb dX13_in_0 rfl (lv_at hl 0 rfl) ?_
  refine lv_iload_n hx hb dX13_in_1 rfl (lv_at hl 1 rfl) ?_
  refine lv_icmp_lt (tgt := 14) hx hb dX13_in_2 (by decide) (fun z => absurd z (by decide)) (fun _ => ?_)
  refine lv_iload_n hx hb dX13_in_5 rfl (lv_at hl 0 rfl) ?_
  refine lv_iload_n hx hb dX13_in_6 rfl (lv_at hl 2 rfl) ?_
  refine lv_icmp_gt (tgt := 14) hx hb dX13_in_7 (by decide) (fun z => absurd z (by decide)) (fun _ => ?_)
  refine lv_iconst (v := 1) hx hb dX13_in_10 (by decide) ?_
  refine lv_goto (tgt := 15) hx hb dX13_in_11 (by decide) ?_
  exact W.zret (v := 1) (ty := .boolean) hx hb hr rfl (fun t ht hW => ⟨⟨1, (), rfl, rfl, trivial⟩, hS.F ht⟩) hS.2.2 dX13_in_15
set_option maxHeartbeats 500000 in
set_option maxRecDepth 100000 in
theorem kX13_in_7 (l : Launch) (dC : Nat → ClassId) (dI : Nat → Nat → Nat) (sz : Nat) (p0 : Int32) : Met l yX13_in (jk yX13_in cX13_in 3 (some .boolean)) ({ frames := 0, cells := 0, slots := 0, locals := 0 }) (va_Pc [.int p0, .int 0, .int 9] (fun U => U.heap.size = sz)) (va_Qi (fun (r : Int32) (_ : Unit) => (p0 < 0 ∧ r = 0) ∨ (¬ (p0 < 0) ∧ 9 < p0 ∧ r = 0) ∨ (¬ (p0 < 0) ∧ ¬ (9 < p0) ∧ r = 1)) (fun _ _ => True) (va_A [] sz)) 0 0 (va_A [] sz) := by
  refine Met.ofW (cc := cX13_in) (maxL := 3) (ret := (some .boolean)) (by decide) rfl ?_
  intro p e s m args below meth c s₁ B hml hv
  obtain ⟨rfl, hsz⟩ := hv
  have hx := B.exec
  have hb := B.bytes
  have hr := B.returns
  have hts := atoms_spec (ws := (jk yX13_in cX13_in 3 (some .boolean))) B.pre
  have hown : s.vm.findClass RX13 = some m.cls := findClass_of_methodNamed B.named
  have hlocks := B.notSynchronized
  subst hsz
  have hP : va_P (dC, dI) vwCl [] s.heap := fun k q h => by simp at h
  generalize hAe : (va_A [] s.heap.size) = A
  have hA : ∀ q : Nat, s.heap.size ≤ q → A q := fun q h => by rw [← hAe]; exact Or.inr h
  have hS : va_S A s.heap s.heap [] := va_S.rf
  have hl := lv_entry ([.int p0, .int 0, .int 9]) (n := 3) (Nat.le_of_ble_eq_true rfl)
  rw [lg_entry_eq]
  generalize (lg_sl ([.int p0, .int 0, .int 9]) ++ List.replicate (3 - (lg_sl ([.int p0, .int 0, .int 9])).length) Slot.unset).toArray = ls at hl ⊢
  have hl : lv_has ls 3 [(0, .int p0), (1, .int 0), (2, .int 9)] := hl
  refine lv_iload_n hx hb dX13_in_0 rfl (lv_at hl 0 rfl) ?_
  refine lv_iload_n hx hb dX13_in_1 rfl (lv_at hl 1 rfl) ?_
  refine lv_icmp_lt (tgt := 14) hx hb dX13_in_2 (by decide) (fun c_1 => ?_) (fun c_1 => ?_)
  · refine lv_iconst (v := 0) hx hb dX13_in_14 (by decide) ?_
    exact W.zret (v := 0) (ty := .boolean) hx hb hr rfl (fun t ht hW => ⟨⟨0, (), rfl, (Or.inl ⟨c_1, rfl⟩), trivial⟩, hS.F ht⟩) hS.2.2 dX13_in_15
  · refine lv_iload_n hx hb dX13_in_5 rfl (lv_at hl 0 rfl) ?_
    refine lv_iload_n hx hb dX13_in_6 rfl (lv_at hl 2 rfl) ?_
    refine lv_icmp_gt (tgt := 14) hx hb dX13_in_7 (by decide) (fun c_2 => ?_) (fun c_2 => ?_)
    · refine lv_iconst (v := 0) hx hb dX13_in_14 (by decide) ?_
      exact W.zret (v := 0) (ty := .boolean) hx hb hr rfl (fun t ht hW => ⟨⟨0, (), rfl, (Or.inr (Or.inl ⟨c_1, c_2, rfl⟩)), trivial⟩, hS.F ht⟩) hS.2.2 dX13_in_15
    · refine lv_iconst (v := 1) hx hb dX13_in_10 (by decide) ?_
      refine lv_goto (tgt := 15) hx hb dX13_in_11 (by decide) ?_
      exact W.zret (v := 1) (ty := .boolean) hx hb hr rfl (fun t ht hW => ⟨⟨1, (), rfl, (Or.inr (Or.inr ⟨c_1, c_2, rfl⟩)), trivial⟩, hS.F ht⟩) hS.2.2 dX13_in_15
theorem s_tX13_bound_v0_0 {p2 : Int32} (c_3 : p2 < 0) : 0 = sp_bound 0 p2 := by
  unfold sp_bound
  have g0 : p2.toInt < 0 := ji_lt.mp c_3
  rw [show (0 : Int32).toInt = 0 from rfl]
  split <;> first | rfl | (exfalso; omega)
theorem s_tX13_bound_v0_1 {p2 : Int32} (c_4 : ¬ (p2 < 0)) (c_5 : 9 < p2) : 0 = sp_bound 0 p2 := by
  unfold sp_bound
  have g0 : ¬ (p2.toInt < 0) := fun z => c_4 (ji_lt.mpr z)
  have g1 : 9 < p2.toInt := ji_lt.mp c_5
  rw [show (0 : Int32).toInt = 0 from rfl]
  split <;> first | rfl | (exfalso; omega)
theorem s_tX13_bound_v0_2 {p2 : Int32} (c_6 : ¬ (p2 < 0)) (c_7 : ¬ (9 < p2)) : 1 = sp_bound 0 p2 := by
  unfold sp_bound
  have g0 : ¬ (p2.toInt < 0) := fun z => c_6 (ji_lt.mpr z)
  have g1 : ¬ (9 < p2.toInt) := fun z => c_7 (ji_lt.mpr z)
  rw [show (0 : Int32).toInt = 0 from rfl]
  split <;> first | rfl | (exfalso; omega)
set_option maxHeartbeats 500000 in
set_option maxRecDepth 100000 in
theorem tX13_bound_v0 (l : Launch) (dC : Nat → ClassId) (dI : Nat → Nat → Nat) (sz : Nat) (ad : Nat → Nat) (ca : Nat → ClassId) (p2 : Int32) : Met l yX13_bound (jk yX13_bound cX13_bound 4 (some .boolean)) ({ frames := 1, cells := 0, slots := 0, locals := 22 }) (va_Pc [.ref (ad 0), .int 0, .int p2] (jw_P (dC, dI) (mW ad ca) (mT ca) sz)) (va_Qi (fun (r : Int32) (_ : Unit) => r = sp_bound 0 p2) (fun _ _ => True) (va_A (mW ad ca) sz)) 0 0 (va_A (mW ad ca) sz) := by
  refine Met.ofW (cc := cX13_bound) (maxL := 4) (ret := (some .boolean)) (by decide) rfl ?_
  intro p e s m args below meth c s₁ B hml hv
  obtain ⟨rfl, hsz, hP, hK, hD0⟩ := hv
  have hx := B.exec
  have hb := B.bytes
  have hr := B.returns
  have hts := atoms_spec (ws := (jk yX13_bound cX13_bound 4 (some .boolean))) B.pre
  have hown : s.vm.findClass RX13 = some m.cls := findClass_of_methodNamed B.named
  have hlocks := B.notSynchronized
  subst hsz
  have hD := hD0.self (sz := s.heap.size)
  generalize hAe : (va_A (mW ad ca) s.heap.size) = A at hD ⊢
  have hA : ∀ q : Nat, s.heap.size ≤ q → A q := fun q h => by rw [← hAe]; exact Or.inr h
  have hS : va_S A s.heap s.heap [] := va_S.rf
  have hP : va_P (dC, dI) vwCl (mW ad ca) s.heap := hP
  have hl := lv_entry ([.ref (ad 0), .int 0, .int p2]) (n := 4) (Nat.le_of_ble_eq_true rfl)
  rw [lg_entry_eq]
  generalize (lg_sl ([.ref (ad 0), .int 0, .int p2]) ++ List.replicate (4 - (lg_sl ([.ref (ad 0), .int 0, .int p2])).length) Slot.unset).toArray = ls at hl ⊢
  have hl : lv_has ls 4 [(0, .ref (ad 0)), (1, .int 0), (2, .int p2)] := hl
  refine lv_iload_n hx hb dX13_bound_0 rfl (lv_at hl 1 rfl) ?_
  refine lv_iconst (v := 0) hx hb dX13_bound_1 (by decide) ?_
  refine lv_iconst (v := 4) hx hb dX13_bound_2 (by decide) ?_
  refine jc_i (va_runS (As := [.int 0, .int 0, .int 4]) (rest := []) ⟨hx, hb, hml, hown, hts⟩ (kX13_in_6 l dC dI _) (va_cwS 3 hts (jgoodS m_493 m_494 m_96 m_495) rfl rfl rfl (by decide +kernel) ⟨Nat.le_of_ble_eq_true rfl, Nat.le_of_ble_eq_true rfl⟩) ⟨jw_blind0, fun U hU hW => ⟨rfl, congrArg Array.size hU⟩⟩ rfl rfl hl.1 rfl (lv_room (Nat.le_of_ble_eq_true rfl)) dX13_bound_3 ⟨Nat.le_of_ble_eq_true rfl, Nat.le_of_ble_eq_true rfl⟩) hP hS hA (fun r_1 H locs hw_1 hP hS => ?_)
  have hw_1 : 1 = r_1 := Eq.symm hw_1
  subst hw_1
  refine lv_if_eq (tgt := 50) hx hb dX13_bound_6 (by decide) (fun z => absurd z (by decide)) (fun _ => ?_)
  refine lv_iload_n hx hb dX13_bound_9 rfl (lv_at hl 2 rfl) ?_
  refine lv_iload_n hx hb dX13_bound_10 rfl (lv_at hl 1 rfl) ?_
  refine lv_if_ne (tgt := 18) hx hb dX13_bound_11 (by decide) (fun z => absurd (by decide) z) (fun _ => ?_)
  refine lv_iconst (v := 0) hx hb dX13_bound_14 (by decide) ?_
  refine lv_goto (tgt := 26) hx hb dX13_bound_15 (by decide) ?_
  refine lv_iload_n hx hb dX13_bound_26 rfl (lv_at hl 1 rfl) ?_
  refine lv_iconst (v := 4) hx hb dX13_bound_27 (by decide) ?_
  refine lv_icmp_ne (tgt := 36) hx hb dX13_bound_28 (by decide) (fun _ => ?_) (fun z => absurd z (by decide))
  refine lv_aload_n hx hb dX13_bound_36 rfl (lv_at hl 0 rfl) ?_
  refine va_get (D := (dC, dI)) (ci := 13) (v := .ref (ad 19)) (C := RX13) (T := TX13) (N := 104) hx hb hts (jh hin_RX13) hown hK hP 0 rfl rfl 31 (by decide) (hts (.fieldLink RX13 65 "BookOfAllModel" "bounds" "[I") (jm m_20)) (fun _ h9 => h9) rfl dX13_bound_37 ?_
  refine lv_iload_n hx hb dX13_bound_40 rfl (lv_at hl 1 rfl) ?_
  refine lv_iconst (v := 1) hx hb dX13_bound_41 (by decide) ?_
  refine lv_iadd hx hb dX13_bound_42 ?_
  refine jt_i 1 (by decide) ?_
  refine va_iald hx hb hK hP 19 18 rfl rfl (vp_in_nI (n := 1) (by decide) (by decide)) dX13_bound_43 ?_
  refine jt_i 9 (by decide) ?_
  refine jc_i (va_runS (As := [.int p2, .int 0, .int 9]) (rest := []) ⟨hx, hb, hml, hown, hts⟩ (kX13_in_7 l dC dI _ p2) (va_cwS 3 hts (jgoodS m_493 m_494 m_96 m_495) rfl rfl rfl (by decide +kernel) ⟨Nat.le_of_ble_eq_true rfl, Nat.le_of_ble_eq_true rfl⟩) ⟨jw_blind0, fun U hU hW => ⟨rfl, congrArg Array.size hU⟩⟩ rfl rfl hl.1 rfl (lv_room (Nat.le_of_ble_eq_true rfl)) dX13_bound_44 ⟨Nat.le_of_ble_eq_true rfl, Nat.le_of_ble_eq_true rfl⟩) hP hS hA (fun r_2 H locs hw_2 hP hS => ?_)
  rcases (show (p2 < 0 ∧ r_2 = 0) ∨ (¬ (p2 < 0) ∧ 9 < p2 ∧ r_2 = 0) ∨ (¬ (p2 < 0) ∧ ¬ (9 < p2) ∧ r_2 = 1) from hw_2) with ⟨c_3, e_3_0⟩ | ⟨c_4, c_5, e_5_1⟩ | ⟨c_6, c_7, e_7_2⟩
  · have e_3_0 := e_3_0.symm
    subst e_3_0
    refine lv_if_ne (tgt := 52) hx hb dX13_bound_47 (by decide) (fun z => absurd (by decide) z) (fun _ => ?_)
    refine lv_iconst (v := 0) hx hb dX13_bound_50 (by decide) ?_
    exact W.zret (v := 0) (ty := .boolean) hx hb hr rfl (fun t ht hW => ⟨⟨0, (), rfl, (s_tX13_bound_v0_0 (p2 := p2) c_3), trivial⟩, hS.F ht⟩) hS.2.2 dX13_bound_51
  · have e_5_1 := e_5_1.symm
    subst e_5_1
    refine lv_if_ne (tgt := 52) hx hb dX13_bound_47 (by decide) (fun z => absurd (by decide) z) (fun _ => ?_)
    refine lv_iconst (v := 0) hx hb dX13_bound_50 (by decide) ?_
    exact W.zret (v := 0) (ty := .boolean) hx hb hr rfl (fun t ht hW => ⟨⟨0, (), rfl, (s_tX13_bound_v0_1 (p2 := p2) c_4 c_5), trivial⟩, hS.F ht⟩) hS.2.2 dX13_bound_51
  · have e_7_2 := e_7_2.symm
    subst e_7_2
    refine lv_if_ne (tgt := 52) hx hb dX13_bound_47 (by decide) (fun _ => ?_) (fun z => absurd z (by decide))
    refine lv_iconst (v := 0) hx hb dX13_bound_52 (by decide) ?_
    refine lv_istore_n (lv' := [(3, .int 0), (0, .ref (ad 0)), (1, .int 0), (2, .int p2)]) hx hb dX13_bound_53 rfl hl (by decide) rfl (fun ls hl => ?_)
    refine lv_iload_n hx hb dX13_bound_54 rfl (lv_at hl 0 rfl) ?_
    refine lv_bipush (v := 6) hx hb dX13_bound_55 (by decide) ?_
    refine lv_icmp_ge (tgt := 77) hx hb dX13_bound_57 (by decide) (fun z => absurd z (by decide)) (fun _ => ?_)
    refine lv_aload_n hx hb dX13_bound_60 rfl (lv_at hl 1 rfl) ?_
    refine va_get (D := (dC, dI)) (ci := 13) (v := .ref (ad 20)) (C := RX13) (T := TX13) (N := 104) hx hb hts (jh hin_RX13) hown hK hP 0 rfl rfl 32 (by decide) (hts (.fieldLink RX13 68 "BookOfAllModel" "isSet" "[Z") (jm m_22)) (fun _ h9 => h9) rfl dX13_bound_61 ?_
    refine lv_iload_n hx hb dX13_bound_64 rfl (lv_at hl 0 rfl) ?_
    refine va_zald hx hb hK hP 20 19 rfl rfl (vp_in_nI (n := 0) (by decide) (by decide)) dX13_bound_65 ?_
    refine jt_i 0 (by decide) ?_
    refine lv_if_eq (tgt := 71) hx hb dX13_bound_66 (by decide) (fun _ => ?_) (fun z => absurd (by decide) z)
    refine lv_iinc (v := 1) (lv' := [(3, .int 1), (0, .ref (ad 0)), (1, .int 0), (2, .int p2)]) hx hb dX13_bound_71 hl (k := 0) rfl (by decide) (by decide) rfl (fun ls hl => ?_)
    refine lv_goto (tgt := 54) hx hb dX13_bound_74 (by decide) ?_
    refine lv_iload_n hx hb dX13_bound_54 rfl (lv_at hl 0 rfl) ?_
    refine lv_bipush (v := 6) hx hb dX13_bound_55 (by decide) ?_
    refine lv_icmp_ge (tgt := 77) hx hb dX13_bound_57 (by decide) (fun z => absurd z (by decide)) (fun _ => ?_)
    refine lv_aload_n hx hb dX13_bound_60 rfl (lv_at hl 1 rfl) ?_
    refine va_get (D := (dC, dI)) (ci := 13) (v := .ref (ad 20)) (C := RX13) (T := TX13) (N := 104) hx hb hts (jh hin_RX13) hown hK hP 0 rfl rfl 32 (by decide) (hts (.fieldLink RX13 68 "BookOfAllModel" "isSet" "[Z") (jm m_22)) (fun _ h9 => h9) rfl dX13_bound_61 ?_
    refine lv_iload_n hx hb dX13_bound_64 rfl (lv_at hl 0 rfl) ?_
    refine va_zald hx hb hK hP 20 19 rfl rfl (vp_in_nI (n := 1) (by decide) (by decide)) dX13_bound_65 ?_
    refine jt_i 0 (by decide) ?_
    refine lv_if_eq (tgt := 71) hx hb dX13_bound_66 (by decide) (fun _ => ?_) (fun z => absurd (by decide) z)
    refine lv_iinc (v := 2) (lv' := [(3, .int 2), (0, .ref (ad 0)), (1, .int 0), (2, .int p2)]) hx hb dX13_bound_71 hl (k := 0) rfl (by decide) (by decide) rfl (fun ls hl => ?_)
    refine lv_goto (tgt := 54) hx hb dX13_bound_74 (by decide) ?_
    refine lv_iload_n hx hb dX13_bound_54 rfl (lv_at hl 0 rfl) ?_
    refine lv_bipush (v := 6) hx hb dX13_bound_55 (by decide) ?_
    refine lv_icmp_ge (tgt := 77) hx hb dX13_bound_57 (by decide) (fun z => absurd z (by decide)) (fun _ => ?_)
    refine lv_aload_n hx hb dX13_bound_60 rfl (lv_at hl 1 rfl) ?_
    refine va_get (D := (dC, dI)) (ci := 13) (v := .ref (ad 20)) (C := RX13) (T := TX13) (N := 104) hx hb hts (jh hin_RX13) hown hK hP 0 rfl rfl 32 (by decide) (hts (.fieldLink RX13 68 "BookOfAllModel" "isSet" "[Z") (jm m_22)) (fun _ h9 => h9) rfl dX13_bound_61 ?_
    refine lv_iload_n hx hb dX13_bound_64 rfl (lv_at hl 0 rfl) ?_
    refine va_zald hx hb hK hP 20 19 rfl rfl (vp_in_nI (n := 2) (by decide) (by decide)) dX13_bound_65 ?_
    refine jt_i 0 (by decide) ?_
    refine lv_if_eq (tgt := 71) hx hb dX13_bound_66 (by decide) (fun _ => ?_) (fun z => absurd (by decide) z)
    refine lv_iinc (v := 3) (lv' := [(3, .int 3), (0, .ref (ad 0)), (1, .int 0), (2, .int p2)]) hx hb dX13_bound_71 hl (k := 0) rfl (by decide) (by decide) rfl (fun ls hl => ?_)
    refine lv_goto (tgt := 54) hx hb dX13_bound_74 (by decide) ?_
    refine lv_iload_n hx hb dX13_bound_54 rfl (lv_at hl 0 rfl) ?_
    refine lv_bipush (v := 6) hx hb dX13_bound_55 (by decide) ?_
    refine lv_icmp_ge (tgt := 77) hx hb dX13_bound_57 (by decide) (fun z => absurd z (by decide)) (fun _ => ?_)
    refine lv_aload_n hx hb dX13_bound_60 rfl (lv_at hl 1 rfl) ?_
    refine va_get (D := (dC, dI)) (ci := 13) (v := .ref (ad 20)) (C := RX13) (T := TX13) (N := 104) hx hb hts (jh hin_RX13) hown hK hP 0 rfl rfl 32 (by decide) (hts (.fieldLink RX13 68 "BookOfAllModel" "isSet" "[Z") (jm m_22)) (fun _ h9 => h9) rfl dX13_bound_61 ?_
    refine lv_iload_n hx hb dX13_bound_64 rfl (lv_at hl 0 rfl) ?_
    refine va_zald hx hb hK hP 20 19 rfl rfl (vp_in_nI (n := 3) (by decide) (by decide)) dX13_bound_65 ?_
    refine jt_i 0 (by decide) ?_
    refine lv_if_eq (tgt := 71) hx hb dX13_bound_66 (by decide) (fun _ => ?_) (fun z => absurd (by decide) z)
    refine lv_iinc (v := 4) (lv' := [(3, .int 4), (0, .ref (ad 0)), (1, .int 0), (2, .int p2)]) hx hb dX13_bound_71 hl (k := 0) rfl (by decide) (by decide) rfl (fun ls hl => ?_)
    refine lv_goto (tgt := 54) hx hb dX13_bound_74 (by decide) ?_
    refine lv_iload_n hx hb dX13_bound_54 rfl (lv_at hl 0 rfl) ?_
    refine lv_bipush (v := 6) hx hb dX13_bound_55 (by decide) ?_
    refine lv_icmp_ge (tgt := 77) hx hb dX13_bound_57 (by decide) (fun z => absurd z (by decide)) (fun _ => ?_)
    refine lv_aload_n hx hb dX13_bound_60 rfl (lv_at hl 1 rfl) ?_
    refine va_get (D := (dC, dI)) (ci := 13) (v := .ref (ad 20)) (C := RX13) (T := TX13) (N := 104) hx hb hts (jh hin_RX13) hown hK hP 0 rfl rfl 32 (by decide) (hts (.fieldLink RX13 68 "BookOfAllModel" "isSet" "[Z") (jm m_22)) (fun _ h9 => h9) rfl dX13_bound_61 ?_
    refine lv_iload_n hx hb dX13_bound_64 rfl (lv_at hl 0 rfl) ?_
    refine va_zald hx hb hK hP 20 19 rfl rfl (vp_in_nI (n := 4) (by decide) (by decide)) dX13_bound_65 ?_
    refine jt_i 0 (by decide) ?_
    refine lv_if_eq (tgt := 71) hx hb dX13_bound_66 (by decide) (fun _ => ?_) (fun z => absurd (by decide) z)
    refine lv_iinc (v := 5) (lv' := [(3, .int 5), (0, .ref (ad 0)), (1, .int 0), (2, .int p2)]) hx hb dX13_bound_71 hl (k := 0) rfl (by decide) (by decide) rfl (fun ls hl => ?_)
    refine lv_goto (tgt := 54) hx hb dX13_bound_74 (by decide) ?_
    refine lv_iload_n hx hb dX13_bound_54 rfl (lv_at hl 0 rfl) ?_
    refine lv_bipush (v := 6) hx hb dX13_bound_55 (by decide) ?_
    refine lv_icmp_ge (tgt := 77) hx hb dX13_bound_57 (by decide) (fun z => absurd z (by decide)) (fun _ => ?_)
    refine lv_aload_n hx hb dX13_bound_60 rfl (lv_at hl 1 rfl) ?_
    refine va_get (D := (dC, dI)) (ci := 13) (v := .ref (ad 20)) (C := RX13) (T := TX13) (N := 104) hx hb hts (jh hin_RX13) hown hK hP 0 rfl rfl 32 (by decide) (hts (.fieldLink RX13 68 "BookOfAllModel" "isSet" "[Z") (jm m_22)) (fun _ h9 => h9) rfl dX13_bound_61 ?_
    refine lv_iload_n hx hb dX13_bound_64 rfl (lv_at hl 0 rfl) ?_
    refine va_zald hx hb hK hP 20 19 rfl rfl (vp_in_nI (n := 5) (by decide) (by decide)) dX13_bound_65 ?_
    refine jt_i 0 (by decide) ?_
    refine lv_if_eq (tgt := 71) hx hb dX13_bound_66 (by decide) (fun _ => ?_) (fun z => absurd (by decide) z)
    refine lv_iinc (v := 6) (lv' := [(3, .int 6), (0, .ref (ad 0)), (1, .int 0), (2, .int p2)]) hx hb dX13_bound_71 hl (k := 0) rfl (by decide) (by decide) rfl (fun ls hl => ?_)
    refine lv_goto (tgt := 54) hx hb dX13_bound_74 (by decide) ?_
    refine lv_iload_n hx hb dX13_bound_54 rfl (lv_at hl 0 rfl) ?_
    refine lv_bipush (v := 6) hx hb dX13_bound_55 (by decide) ?_
    refine lv_icmp_ge (tgt := 77) hx hb dX13_bound_57 (by decide) (fun _ => ?_) (fun z => absurd (by decide) z)
    refine lv_aload_n hx hb dX13_bound_77 rfl (lv_at hl 1 rfl) ?_
    refine va_get (D := (dC, dI)) (ci := 13) (v := .ref (ad 19)) (C := RX13) (T := TX13) (N := 104) hx hb hts (jh hin_RX13) hown hK hP 0 rfl rfl 31 (by decide) (hts (.fieldLink RX13 65 "BookOfAllModel" "bounds" "[I") (jm m_20)) (fun _ h9 => h9) rfl dX13_bound_78 ?_
    refine lv_iload_n hx hb dX13_bound_81 rfl (lv_at hl 2 rfl) ?_
    refine lv_iload_n hx hb dX13_bound_82 rfl (lv_at hl 3 rfl) ?_
    refine va_iast hx hb hK hP hD hS 19 18 rfl rfl (vp_in_nI (n := 0) (by decide) (by decide)) dX13_bound_83 (fun H locs hP hD hS => ?_)
    refine lv_iconst (v := 1) hx hb dX13_bound_84 (by decide) ?_
    exact W.zret (v := 1) (ty := .boolean) hx hb hr rfl (fun t ht hW => ⟨⟨1, (), rfl, (s_tX13_bound_v0_2 (p2 := p2) c_6 c_7), trivial⟩, hS.F ht⟩) hS.2.2 dX13_bound_85
set_option maxHeartbeats 500000 in
set_option maxRecDepth 100000 in
theorem kX13_in_8 (l : Launch) (dC : Nat → ClassId) (dI : Nat → Nat → Nat) (sz : Nat) : Met l yX13_in (jk yX13_in cX13_in 3 (some .boolean)) ({ frames := 0, cells := 0, slots := 0, locals := 0 }) (va_Pc [.int 1, .int 0, .int 4] (fun U => U.heap.size = sz)) (va_Qi (fun (r : Int32) (_ : Unit) => (r = 1)) (fun _ _ => True) (va_A [] sz)) 0 0 (va_A [] sz) := by
  refine Met.ofW (cc := cX13_in) (maxL := 3) (ret := (some .boolean)) (by decide) rfl ?_
  intro p e s m args below meth c s₁ B hml hv
  obtain ⟨rfl, hsz⟩ := hv
  have hx := B.exec
  have hb := B.bytes
  have hr := B.returns
  have hts := atoms_spec (ws := (jk yX13_in cX13_in 3 (some .boolean))) B.pre
  have hown : s.vm.findClass RX13 = some m.cls := findClass_of_methodNamed B.named
  have hlocks := B.notSynchronized
  subst hsz
  have hP : va_P (dC, dI) vwCl [] s.heap := fun k q h => by simp at h
  generalize hAe : (va_A [] s.heap.size) = A
  have hA : ∀ q : Nat, s.heap.size ≤ q → A q := fun q h => by rw [← hAe]; exact Or.inr h
  have hS : va_S A s.heap s.heap [] := va_S.rf
  have hl := lv_entry ([.int 1, .int 0, .int 4]) (n := 3) (Nat.le_of_ble_eq_true rfl)
  rw [lg_entry_eq]
  generalize (lg_sl ([.int 1, .int 0, .int 4]) ++ List.replicate (3 - (lg_sl ([.int 1, .int 0, .int 4])).length) Slot.unset).toArray = ls at hl ⊢
  have hl : lv_has ls 3 [(0, .int 1), (1, .int 0), (2, .int 4)] := hl
  refine lv_iload_n hx hb dX13_in_0 rfl (lv_at hl 0 rfl) ?_
  refine lv_iload_n hx hb dX13_in_1 rfl (lv_at hl 1 rfl) ?_
  refine lv_icmp_lt (tgt := 14) hx hb dX13_in_2 (by decide) (fun z => absurd z (by decide)) (fun _ => ?_)
  refine lv_iload_n hx hb dX13_in_5 rfl (lv_at hl 0 rfl) ?_
  refine lv_iload_n hx hb dX13_in_6 rfl (lv_at hl 2 rfl) ?_
  refine lv_icmp_gt (tgt := 14) hx hb dX13_in_7 (by decide) (fun z => absurd z (by decide)) (fun _ => ?_)
  refine lv_iconst (v := 1) hx hb dX13_in_10 (by decide) ?_
  refine lv_goto (tgt := 15) hx hb dX13_in_11 (by decide) ?_
  exact W.zret (v := 1) (ty := .boolean) hx hb hr rfl (fun t ht hW => ⟨⟨1, (), rfl, rfl, trivial⟩, hS.F ht⟩) hS.2.2 dX13_in_15
set_option maxHeartbeats 500000 in
set_option maxRecDepth 100000 in
theorem kX13_in_9 (l : Launch) (dC : Nat → ClassId) (dI : Nat → Nat → Nat) (sz : Nat) (p0 : Int32) : Met l yX13_in (jk yX13_in cX13_in 3 (some .boolean)) ({ frames := 0, cells := 0, slots := 0, locals := 0 }) (va_Pc [.int p0, .int 4, .int 14] (fun U => U.heap.size = sz)) (va_Qi (fun (r : Int32) (_ : Unit) => (p0 < 4 ∧ r = 0) ∨ (¬ (p0 < 4) ∧ 14 < p0 ∧ r = 0) ∨ (¬ (p0 < 4) ∧ ¬ (14 < p0) ∧ r = 1)) (fun _ _ => True) (va_A [] sz)) 0 0 (va_A [] sz) := by
  refine Met.ofW (cc := cX13_in) (maxL := 3) (ret := (some .boolean)) (by decide) rfl ?_
  intro p e s m args below meth c s₁ B hml hv
  obtain ⟨rfl, hsz⟩ := hv
  have hx := B.exec
  have hb := B.bytes
  have hr := B.returns
  have hts := atoms_spec (ws := (jk yX13_in cX13_in 3 (some .boolean))) B.pre
  have hown : s.vm.findClass RX13 = some m.cls := findClass_of_methodNamed B.named
  have hlocks := B.notSynchronized
  subst hsz
  have hP : va_P (dC, dI) vwCl [] s.heap := fun k q h => by simp at h
  generalize hAe : (va_A [] s.heap.size) = A
  have hA : ∀ q : Nat, s.heap.size ≤ q → A q := fun q h => by rw [← hAe]; exact Or.inr h
  have hS : va_S A s.heap s.heap [] := va_S.rf
  have hl := lv_entry ([.int p0, .int 4, .int 14]) (n := 3) (Nat.le_of_ble_eq_true rfl)
  rw [lg_entry_eq]
  generalize (lg_sl ([.int p0, .int 4, .int 14]) ++ List.replicate (3 - (lg_sl ([.int p0, .int 4, .int 14])).length) Slot.unset).toArray = ls at hl ⊢
  have hl : lv_has ls 3 [(0, .int p0), (1, .int 4), (2, .int 14)] := hl
  refine lv_iload_n hx hb dX13_in_0 rfl (lv_at hl 0 rfl) ?_
  refine lv_iload_n hx hb dX13_in_1 rfl (lv_at hl 1 rfl) ?_
  refine lv_icmp_lt (tgt := 14) hx hb dX13_in_2 (by decide) (fun c_1 => ?_) (fun c_1 => ?_)
  · refine lv_iconst (v := 0) hx hb dX13_in_14 (by decide) ?_
    exact W.zret (v := 0) (ty := .boolean) hx hb hr rfl (fun t ht hW => ⟨⟨0, (), rfl, (Or.inl ⟨c_1, rfl⟩), trivial⟩, hS.F ht⟩) hS.2.2 dX13_in_15
  · refine lv_iload_n hx hb dX13_in_5 rfl (lv_at hl 0 rfl) ?_
    refine lv_iload_n hx hb dX13_in_6 rfl (lv_at hl 2 rfl) ?_
    refine lv_icmp_gt (tgt := 14) hx hb dX13_in_7 (by decide) (fun c_2 => ?_) (fun c_2 => ?_)
    · refine lv_iconst (v := 0) hx hb dX13_in_14 (by decide) ?_
      exact W.zret (v := 0) (ty := .boolean) hx hb hr rfl (fun t ht hW => ⟨⟨0, (), rfl, (Or.inr (Or.inl ⟨c_1, c_2, rfl⟩)), trivial⟩, hS.F ht⟩) hS.2.2 dX13_in_15
    · refine lv_iconst (v := 1) hx hb dX13_in_10 (by decide) ?_
      refine lv_goto (tgt := 15) hx hb dX13_in_11 (by decide) ?_
      exact W.zret (v := 1) (ty := .boolean) hx hb hr rfl (fun t ht hW => ⟨⟨1, (), rfl, (Or.inr (Or.inr ⟨c_1, c_2, rfl⟩)), trivial⟩, hS.F ht⟩) hS.2.2 dX13_in_15
theorem s_tX13_bound_v1_0 {p2 : Int32} (c_3 : p2 < 4) : 0 = sp_bound 1 p2 := by
  unfold sp_bound
  have g0 : p2.toInt < 4 := ji_lt.mp c_3
  rw [show (1 : Int32).toInt = 1 from rfl]
  split <;> first | rfl | (exfalso; omega)
theorem s_tX13_bound_v1_1 {p2 : Int32} (c_4 : ¬ (p2 < 4)) (c_5 : 14 < p2) : 0 = sp_bound 1 p2 := by
  unfold sp_bound
  have g0 : ¬ (p2.toInt < 4) := fun z => c_4 (ji_lt.mpr z)
  have g1 : 14 < p2.toInt := ji_lt.mp c_5
  rw [show (1 : Int32).toInt = 1 from rfl]
  split <;> first | rfl | (exfalso; omega)
theorem s_tX13_bound_v1_2 {p2 : Int32} (c_6 : ¬ (p2 < 4)) (c_7 : ¬ (14 < p2)) : 1 = sp_bound 1 p2 := by
  unfold sp_bound
  have g0 : ¬ (p2.toInt < 4) := fun z => c_6 (ji_lt.mpr z)
  have g1 : ¬ (14 < p2.toInt) := fun z => c_7 (ji_lt.mpr z)
  rw [show (1 : Int32).toInt = 1 from rfl]
  split <;> first | rfl | (exfalso; omega)
set_option maxHeartbeats 500000 in
set_option maxRecDepth 100000 in
theorem tX13_bound_v1 (l : Launch) (dC : Nat → ClassId) (dI : Nat → Nat → Nat) (sz : Nat) (ad : Nat → Nat) (ca : Nat → ClassId) (p2 : Int32) : Met l yX13_bound (jk yX13_bound cX13_bound 4 (some .boolean)) ({ frames := 1, cells := 0, slots := 0, locals := 22 }) (va_Pc [.ref (ad 0), .int 1, .int p2] (jw_P (dC, dI) (mW ad ca) (mT ca) sz)) (va_Qi (fun (r : Int32) (_ : Unit) => r = sp_bound 1 p2) (fun _ _ => True) (va_A (mW ad ca) sz)) 0 0 (va_A (mW ad ca) sz) := by
  refine Met.ofW (cc := cX13_bound) (maxL := 4) (ret := (some .boolean)) (by decide) rfl ?_
  intro p e s m args below meth c s₁ B hml hv
  obtain ⟨rfl, hsz, hP, hK, hD0⟩ := hv
  have hx := B.exec
  have hb := B.bytes
  have hr := B.returns
  have hts := atoms_spec (ws := (jk yX13_bound cX13_bound 4 (some .boolean))) B.pre
  have hown : s.vm.findClass RX13 = some m.cls := findClass_of_methodNamed B.named
  have hlocks := B.notSynchronized
  subst hsz
  have hD := hD0.self (sz := s.heap.size)
  generalize hAe : (va_A (mW ad ca) s.heap.size) = A at hD ⊢
  have hA : ∀ q : Nat, s.heap.size ≤ q → A q := fun q h => by rw [← hAe]; exact Or.inr h
  have hS : va_S A s.heap s.heap [] := va_S.rf
  have hP : va_P (dC, dI) vwCl (mW ad ca) s.heap := hP
  have hl := lv_entry ([.ref (ad 0), .int 1, .int p2]) (n := 4) (Nat.le_of_ble_eq_true rfl)
  rw [lg_entry_eq]
  generalize (lg_sl ([.ref (ad 0), .int 1, .int p2]) ++ List.replicate (4 - (lg_sl ([.ref (ad 0), .int 1, .int p2])).length) Slot.unset).toArray = ls at hl ⊢
  have hl : lv_has ls 4 [(0, .ref (ad 0)), (1, .int 1), (2, .int p2)] := hl
  refine lv_iload_n hx hb dX13_bound_0 rfl (lv_at hl 1 rfl) ?_
  refine lv_iconst (v := 0) hx hb dX13_bound_1 (by decide) ?_
  refine lv_iconst (v := 4) hx hb dX13_bound_2 (by decide) ?_
  refine jc_i (va_runS (As := [.int 1, .int 0, .int 4]) (rest := []) ⟨hx, hb, hml, hown, hts⟩ (kX13_in_8 l dC dI _) (va_cwS 3 hts (jgoodS m_493 m_494 m_96 m_495) rfl rfl rfl (by decide +kernel) ⟨Nat.le_of_ble_eq_true rfl, Nat.le_of_ble_eq_true rfl⟩) ⟨jw_blind0, fun U hU hW => ⟨rfl, congrArg Array.size hU⟩⟩ rfl rfl hl.1 rfl (lv_room (Nat.le_of_ble_eq_true rfl)) dX13_bound_3 ⟨Nat.le_of_ble_eq_true rfl, Nat.le_of_ble_eq_true rfl⟩) hP hS hA (fun r_1 H locs hw_1 hP hS => ?_)
  have hw_1 : 1 = r_1 := Eq.symm hw_1
  subst hw_1
  refine lv_if_eq (tgt := 50) hx hb dX13_bound_6 (by decide) (fun z => absurd z (by decide)) (fun _ => ?_)
  refine lv_iload_n hx hb dX13_bound_9 rfl (lv_at hl 2 rfl) ?_
  refine lv_iload_n hx hb dX13_bound_10 rfl (lv_at hl 1 rfl) ?_
  refine lv_if_ne (tgt := 18) hx hb dX13_bound_11 (by decide) (fun _ => ?_) (fun z => absurd z (by decide))
  refine lv_aload_n hx hb dX13_bound_18 rfl (lv_at hl 0 rfl) ?_
  refine va_get (D := (dC, dI)) (ci := 13) (v := .ref (ad 19)) (C := RX13) (T := TX13) (N := 104) hx hb hts (jh hin_RX13) hown hK hP 0 rfl rfl 31 (by decide) (hts (.fieldLink RX13 65 "BookOfAllModel" "bounds" "[I") (jm m_20)) (fun _ h9 => h9) rfl dX13_bound_19 ?_
  refine lv_iload_n hx hb dX13_bound_22 rfl (lv_at hl 1 rfl) ?_
  refine lv_iconst (v := 1) hx hb dX13_bound_23 (by decide) ?_
  refine lv_isub hx hb dX13_bound_24 ?_
  refine jt_i 0 (by decide) ?_
  refine va_iald hx hb hK hP 19 18 rfl rfl (vp_in_nI (n := 0) (by decide) (by decide)) dX13_bound_25 ?_
  refine jt_i 4 (by decide) ?_
  refine lv_iload_n hx hb dX13_bound_26 rfl (lv_at hl 1 rfl) ?_
  refine lv_iconst (v := 4) hx hb dX13_bound_27 (by decide) ?_
  refine lv_icmp_ne (tgt := 36) hx hb dX13_bound_28 (by decide) (fun _ => ?_) (fun z => absurd z (by decide))
  refine lv_aload_n hx hb dX13_bound_36 rfl (lv_at hl 0 rfl) ?_
  refine va_get (D := (dC, dI)) (ci := 13) (v := .ref (ad 19)) (C := RX13) (T := TX13) (N := 104) hx hb hts (jh hin_RX13) hown hK hP 0 rfl rfl 31 (by decide) (hts (.fieldLink RX13 65 "BookOfAllModel" "bounds" "[I") (jm m_20)) (fun _ h9 => h9) rfl dX13_bound_37 ?_
  refine lv_iload_n hx hb dX13_bound_40 rfl (lv_at hl 1 rfl) ?_
  refine lv_iconst (v := 1) hx hb dX13_bound_41 (by decide) ?_
  refine lv_iadd hx hb dX13_bound_42 ?_
  refine jt_i 2 (by decide) ?_
  refine va_iald hx hb hK hP 19 18 rfl rfl (vp_in_nI (n := 2) (by decide) (by decide)) dX13_bound_43 ?_
  refine jt_i 14 (by decide) ?_
  refine jc_i (va_runS (As := [.int p2, .int 4, .int 14]) (rest := []) ⟨hx, hb, hml, hown, hts⟩ (kX13_in_9 l dC dI _ p2) (va_cwS 3 hts (jgoodS m_493 m_494 m_96 m_495) rfl rfl rfl (by decide +kernel) ⟨Nat.le_of_ble_eq_true rfl, Nat.le_of_ble_eq_true rfl⟩) ⟨jw_blind0, fun U hU hW => ⟨rfl, congrArg Array.size hU⟩⟩ rfl rfl hl.1 rfl (lv_room (Nat.le_of_ble_eq_true rfl)) dX13_bound_44 ⟨Nat.le_of_ble_eq_true rfl, Nat.le_of_ble_eq_true rfl⟩) hP hS hA (fun r_2 H locs hw_2 hP hS => ?_)
  rcases (show (p2 < 4 ∧ r_2 = 0) ∨ (¬ (p2 < 4) ∧ 14 < p2 ∧ r_2 = 0) ∨ (¬ (p2 < 4) ∧ ¬ (14 < p2) ∧ r_2 = 1) from hw_2) with ⟨c_3, e_3_0⟩ | ⟨c_4, c_5, e_5_1⟩ | ⟨c_6, c_7, e_7_2⟩
  · have e_3_0 := e_3_0.symm
    subst e_3_0
    refine lv_if_ne (tgt := 52) hx hb dX13_bound_47 (by decide) (fun z => absurd (by decide) z) (fun _ => ?_)
    refine lv_iconst (v := 0) hx hb dX13_bound_50 (by decide) ?_
    exact W.zret (v := 0) (ty := .boolean) hx hb hr rfl (fun t ht hW => ⟨⟨0, (), rfl, (s_tX13_bound_v1_0 (p2 := p2) c_3), trivial⟩, hS.F ht⟩) hS.2.2 dX13_bound_51
  · have e_5_1 := e_5_1.symm
    subst e_5_1
    refine lv_if_ne (tgt := 52) hx hb dX13_bound_47 (by decide) (fun z => absurd (by decide) z) (fun _ => ?_)
    refine lv_iconst (v := 0) hx hb dX13_bound_50 (by decide) ?_
    exact W.zret (v := 0) (ty := .boolean) hx hb hr rfl (fun t ht hW => ⟨⟨0, (), rfl, (s_tX13_bound_v1_1 (p2 := p2) c_4 c_5), trivial⟩, hS.F ht⟩) hS.2.2 dX13_bound_51
  · have e_7_2 := e_7_2.symm
    subst e_7_2
    refine lv_if_ne (tgt := 52) hx hb dX13_bound_47 (by decide) (fun _ => ?_) (fun z => absurd z (by decide))
    refine lv_iconst (v := 0) hx hb dX13_bound_52 (by decide) ?_
    refine lv_istore_n (lv' := [(3, .int 0), (0, .ref (ad 0)), (1, .int 1), (2, .int p2)]) hx hb dX13_bound_53 rfl hl (by decide) rfl (fun ls hl => ?_)
    refine lv_iload_n hx hb dX13_bound_54 rfl (lv_at hl 0 rfl) ?_
    refine lv_bipush (v := 6) hx hb dX13_bound_55 (by decide) ?_
    refine lv_icmp_ge (tgt := 77) hx hb dX13_bound_57 (by decide) (fun z => absurd z (by decide)) (fun _ => ?_)
    refine lv_aload_n hx hb dX13_bound_60 rfl (lv_at hl 1 rfl) ?_
    refine va_get (D := (dC, dI)) (ci := 13) (v := .ref (ad 20)) (C := RX13) (T := TX13) (N := 104) hx hb hts (jh hin_RX13) hown hK hP 0 rfl rfl 32 (by decide) (hts (.fieldLink RX13 68 "BookOfAllModel" "isSet" "[Z") (jm m_22)) (fun _ h9 => h9) rfl dX13_bound_61 ?_
    refine lv_iload_n hx hb dX13_bound_64 rfl (lv_at hl 0 rfl) ?_
    refine va_zald hx hb hK hP 20 19 rfl rfl (vp_in_nI (n := 0) (by decide) (by decide)) dX13_bound_65 ?_
    refine jt_i 0 (by decide) ?_
    refine lv_if_eq (tgt := 71) hx hb dX13_bound_66 (by decide) (fun _ => ?_) (fun z => absurd (by decide) z)
    refine lv_iinc (v := 1) (lv' := [(3, .int 1), (0, .ref (ad 0)), (1, .int 1), (2, .int p2)]) hx hb dX13_bound_71 hl (k := 0) rfl (by decide) (by decide) rfl (fun ls hl => ?_)
    refine lv_goto (tgt := 54) hx hb dX13_bound_74 (by decide) ?_
    refine lv_iload_n hx hb dX13_bound_54 rfl (lv_at hl 0 rfl) ?_
    refine lv_bipush (v := 6) hx hb dX13_bound_55 (by decide) ?_
    refine lv_icmp_ge (tgt := 77) hx hb dX13_bound_57 (by decide) (fun z => absurd z (by decide)) (fun _ => ?_)
    refine lv_aload_n hx hb dX13_bound_60 rfl (lv_at hl 1 rfl) ?_
    refine va_get (D := (dC, dI)) (ci := 13) (v := .ref (ad 20)) (C := RX13) (T := TX13) (N := 104) hx hb hts (jh hin_RX13) hown hK hP 0 rfl rfl 32 (by decide) (hts (.fieldLink RX13 68 "BookOfAllModel" "isSet" "[Z") (jm m_22)) (fun _ h9 => h9) rfl dX13_bound_61 ?_
    refine lv_iload_n hx hb dX13_bound_64 rfl (lv_at hl 0 rfl) ?_
    refine va_zald hx hb hK hP 20 19 rfl rfl (vp_in_nI (n := 1) (by decide) (by decide)) dX13_bound_65 ?_
    refine jt_i 0 (by decide) ?_
    refine lv_if_eq (tgt := 71) hx hb dX13_bound_66 (by decide) (fun _ => ?_) (fun z => absurd (by decide) z)
    refine lv_iinc (v := 2) (lv' := [(3, .int 2), (0, .ref (ad 0)), (1, .int 1), (2, .int p2)]) hx hb dX13_bound_71 hl (k := 0) rfl (by decide) (by decide) rfl (fun ls hl => ?_)
    refine lv_goto (tgt := 54) hx hb dX13_bound_74 (by decide) ?_
    refine lv_iload_n hx hb dX13_bound_54 rfl (lv_at hl 0 rfl) ?_
    refine lv_bipush (v := 6) hx hb dX13_bound_55 (by decide) ?_
    refine lv_icmp_ge (tgt := 77) hx hb dX13_bound_57 (by decide) (fun z => absurd z (by decide)) (fun _ => ?_)
    refine lv_aload_n hx hb dX13_bound_60 rfl (lv_at hl 1 rfl) ?_
    refine va_get (D := (dC, dI)) (ci := 13) (v := .ref (ad 20)) (C := RX13) (T := TX13) (N := 104) hx hb hts (jh hin_RX13) hown hK hP 0 rfl rfl 32 (by decide) (hts (.fieldLink RX13 68 "BookOfAllModel" "isSet" "[Z") (jm m_22)) (fun _ h9 => h9) rfl dX13_bound_61 ?_
    refine lv_iload_n hx hb dX13_bound_64 rfl (lv_at hl 0 rfl) ?_
    refine va_zald hx hb hK hP 20 19 rfl rfl (vp_in_nI (n := 2) (by decide) (by decide)) dX13_bound_65 ?_
    refine jt_i 0 (by decide) ?_
    refine lv_if_eq (tgt := 71) hx hb dX13_bound_66 (by decide) (fun _ => ?_) (fun z => absurd (by decide) z)
    refine lv_iinc (v := 3) (lv' := [(3, .int 3), (0, .ref (ad 0)), (1, .int 1), (2, .int p2)]) hx hb dX13_bound_71 hl (k := 0) rfl (by decide) (by decide) rfl (fun ls hl => ?_)
    refine lv_goto (tgt := 54) hx hb dX13_bound_74 (by decide) ?_
    refine lv_iload_n hx hb dX13_bound_54 rfl (lv_at hl 0 rfl) ?_
    refine lv_bipush (v := 6) hx hb dX13_bound_55 (by decide) ?_
    refine lv_icmp_ge (tgt := 77) hx hb dX13_bound_57 (by decide) (fun z => absurd z (by decide)) (fun _ => ?_)
    refine lv_aload_n hx hb dX13_bound_60 rfl (lv_at hl 1 rfl) ?_
    refine va_get (D := (dC, dI)) (ci := 13) (v := .ref (ad 20)) (C := RX13) (T := TX13) (N := 104) hx hb hts (jh hin_RX13) hown hK hP 0 rfl rfl 32 (by decide) (hts (.fieldLink RX13 68 "BookOfAllModel" "isSet" "[Z") (jm m_22)) (fun _ h9 => h9) rfl dX13_bound_61 ?_
    refine lv_iload_n hx hb dX13_bound_64 rfl (lv_at hl 0 rfl) ?_
    refine va_zald hx hb hK hP 20 19 rfl rfl (vp_in_nI (n := 3) (by decide) (by decide)) dX13_bound_65 ?_
    refine jt_i 0 (by decide) ?_
    refine lv_if_eq (tgt := 71) hx hb dX13_bound_66 (by decide) (fun _ => ?_) (fun z => absurd (by decide) z)
    refine lv_iinc (v := 4) (lv' := [(3, .int 4), (0, .ref (ad 0)), (1, .int 1), (2, .int p2)]) hx hb dX13_bound_71 hl (k := 0) rfl (by decide) (by decide) rfl (fun ls hl => ?_)
    refine lv_goto (tgt := 54) hx hb dX13_bound_74 (by decide) ?_
    refine lv_iload_n hx hb dX13_bound_54 rfl (lv_at hl 0 rfl) ?_
    refine lv_bipush (v := 6) hx hb dX13_bound_55 (by decide) ?_
    refine lv_icmp_ge (tgt := 77) hx hb dX13_bound_57 (by decide) (fun z => absurd z (by decide)) (fun _ => ?_)
    refine lv_aload_n hx hb dX13_bound_60 rfl (lv_at hl 1 rfl) ?_
    refine va_get (D := (dC, dI)) (ci := 13) (v := .ref (ad 20)) (C := RX13) (T := TX13) (N := 104) hx hb hts (jh hin_RX13) hown hK hP 0 rfl rfl 32 (by decide) (hts (.fieldLink RX13 68 "BookOfAllModel" "isSet" "[Z") (jm m_22)) (fun _ h9 => h9) rfl dX13_bound_61 ?_
    refine lv_iload_n hx hb dX13_bound_64 rfl (lv_at hl 0 rfl) ?_
    refine va_zald hx hb hK hP 20 19 rfl rfl (vp_in_nI (n := 4) (by decide) (by decide)) dX13_bound_65 ?_
    refine jt_i 0 (by decide) ?_
    refine lv_if_eq (tgt := 71) hx hb dX13_bound_66 (by decide) (fun _ => ?_) (fun z => absurd (by decide) z)
    refine lv_iinc (v := 5) (lv' := [(3, .int 5), (0, .ref (ad 0)), (1, .int 1), (2, .int p2)]) hx hb dX13_bound_71 hl (k := 0) rfl (by decide) (by decide) rfl (fun ls hl => ?_)
    refine lv_goto (tgt := 54) hx hb dX13_bound_74 (by decide) ?_
    refine lv_iload_n hx hb dX13_bound_54 rfl (lv_at hl 0 rfl) ?_
    refine lv_bipush (v := 6) hx hb dX13_bound_55 (by decide) ?_
    refine lv_icmp_ge (tgt := 77) hx hb dX13_bound_57 (by decide) (fun z => absurd z (by decide)) (fun _ => ?_)
    refine lv_aload_n hx hb dX13_bound_60 rfl (lv_at hl 1 rfl) ?_
    refine va_get (D := (dC, dI)) (ci := 13) (v := .ref (ad 20)) (C := RX13) (T := TX13) (N := 104) hx hb hts (jh hin_RX13) hown hK hP 0 rfl rfl 32 (by decide) (hts (.fieldLink RX13 68 "BookOfAllModel" "isSet" "[Z") (jm m_22)) (fun _ h9 => h9) rfl dX13_bound_61 ?_
    refine lv_iload_n hx hb dX13_bound_64 rfl (lv_at hl 0 rfl) ?_
    refine va_zald hx hb hK hP 20 19 rfl rfl (vp_in_nI (n := 5) (by decide) (by decide)) dX13_bound_65 ?_
    refine jt_i 0 (by decide) ?_
    refine lv_if_eq (tgt := 71) hx hb dX13_bound_66 (by decide) (fun _ => ?_) (fun z => absurd (by decide) z)
    refine lv_iinc (v := 6) (lv' := [(3, .int 6), (0, .ref (ad 0)), (1, .int 1), (2, .int p2)]) hx hb dX13_bound_71 hl (k := 0) rfl (by decide) (by decide) rfl (fun ls hl => ?_)
    refine lv_goto (tgt := 54) hx hb dX13_bound_74 (by decide) ?_
    refine lv_iload_n hx hb dX13_bound_54 rfl (lv_at hl 0 rfl) ?_
    refine lv_bipush (v := 6) hx hb dX13_bound_55 (by decide) ?_
    refine lv_icmp_ge (tgt := 77) hx hb dX13_bound_57 (by decide) (fun _ => ?_) (fun z => absurd (by decide) z)
    refine lv_aload_n hx hb dX13_bound_77 rfl (lv_at hl 1 rfl) ?_
    refine va_get (D := (dC, dI)) (ci := 13) (v := .ref (ad 19)) (C := RX13) (T := TX13) (N := 104) hx hb hts (jh hin_RX13) hown hK hP 0 rfl rfl 31 (by decide) (hts (.fieldLink RX13 65 "BookOfAllModel" "bounds" "[I") (jm m_20)) (fun _ h9 => h9) rfl dX13_bound_78 ?_
    refine lv_iload_n hx hb dX13_bound_81 rfl (lv_at hl 2 rfl) ?_
    refine lv_iload_n hx hb dX13_bound_82 rfl (lv_at hl 3 rfl) ?_
    refine va_iast hx hb hK hP hD hS 19 18 rfl rfl (vp_in_nI (n := 1) (by decide) (by decide)) dX13_bound_83 (fun H locs hP hD hS => ?_)
    refine lv_iconst (v := 1) hx hb dX13_bound_84 (by decide) ?_
    exact W.zret (v := 1) (ty := .boolean) hx hb hr rfl (fun t ht hW => ⟨⟨1, (), rfl, (s_tX13_bound_v1_2 (p2 := p2) c_6 c_7), trivial⟩, hS.F ht⟩) hS.2.2 dX13_bound_85
