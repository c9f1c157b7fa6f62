set_option maxHeartbeats 500000 in
set_option maxRecDepth 100000 in
theorem kX13_in_14 (l : Launch) (dC : Nat → ClassId) (dI : Nat → Nat → Nat) (sz : Nat) : Met l yX13_in (jk yX13_in cX13_in 3 (some .boolean)) ({ frames := 0, cells := 0, slots := 0, locals := 0 }) (va_Pc [.int 4, .int 0, .int 4] (fun U => U.heap.size = sz)) (va_Qi (fun (r : Int32) (_ : Unit) => (r = 1)) (fun _ _ => True) (va_A [] sz)) 0 0 (va_A [] sz) := by
  refine Met.ofW (cc := cX13_in) (maxL := 3) (ret := (some .boolean)) (by decide) rfl ?_
  intro p e s m args below meth c s₁ B hml hv
  obtain ⟨rfl, hsz⟩ := hv
  have hx := B.exec
  have hb := B.bytes
  have hr := B.returns
  have hts := atoms_spec (ws := (jk yX13_in cX13_in 3 (some .boolean))) B.pre
  have hown : s.vm.findClass RX13 = some m.cls := findClass_of_methodNamed B.named
  have hlocks := B.notSynchronized
  subst hsz
  have hP : va_P (dC, dI) vwCl [] s.heap := fun k q h => by simp at h
  generalize hAe : (va_A [] s.heap.size) = A
  have hA : ∀ q : Nat, s.heap.size ≤ q → A q := fun q h => by rw [← hAe]; exact Or.inr h
  have hS : va_S A s.heap s.heap [] := va_S.rf
  have hl := lv_entry ([.int 4, .int 0, .int 4]) (n := 3) (Nat.le_of_ble_eq_true rfl)
  rw [lg_entry_eq]
  generalize (lg_sl ([.int 4, .int 0, .int 4]) ++ List.replicate (3 - (lg_sl ([.int 4, .int 0, .int 4])).length) Slot.unset).toArray = ls at hl ⊢
  have hl : lv_has ls 3 [(0, .int 4), (1, .int 0), (2, .int 4)] := hl
  refine lv_iload_n hx hb dX13_in_0 rfl (lv_at hl 0 rfl) ?_
  refine lv_iload_n hx hb dX13_in_1 rfl (lv_at hl 1 rfl) ?_
  refine lv_icmp_lt (tgt := 14) hx hb dX13_in_2 (by decide) (fun z => absurd z (by decide)) (fun _ => ?_)
  refine lv_iload_n hx hb dX13_in_5 rfl (lv_at hl 0 rfl) ?_
  refine lv_iload_n hx hb dX13_in_6 rfl (lv_at hl 2 rfl) ?_
  refine lv_icmp_gt (tgt := 14) hx hb dX13_in_7 (by decide) (fun z => absurd z (by decide)) (fun _ => ?_)
  refine lv_iconst (v := 1) hx hb dX13_in_10 (by decide) ?_
  refine lv_goto (tgt := 15) hx hb dX13_in_11 (by decide) ?_
  exact W.zret (v := 1) (ty := .boolean) hx hb hr rfl (fun t ht hW => ⟨⟨1, (), rfl, rfl, trivial⟩, hS.F ht⟩) hS.2.2 dX13_in_15
set_option maxHeartbeats 500000 in
set_option maxRecDepth 100000 in
theorem kX13_in_15 (l : Launch) (dC : Nat → ClassId) (dI : Nat → Nat → Nat) (sz : Nat) (p0 : Int32) : Met l yX13_in (jk yX13_in cX13_in 3 (some .boolean)) ({ frames := 0, cells := 0, slots := 0, locals := 0 }) (va_Pc [.int p0, .int 19, .int 25] (fun U => U.heap.size = sz)) (va_Qi (fun (r : Int32) (_ : Unit) => (p0 < 19 ∧ r = 0) ∨ (¬ (p0 < 19) ∧ 25 < p0 ∧ r = 0) ∨ (¬ (p0 < 19) ∧ ¬ (25 < p0) ∧ r = 1)) (fun _ _ => True) (va_A [] sz)) 0 0 (va_A [] sz) := by
  refine Met.ofW (cc := cX13_in) (maxL := 3) (ret := (some .boolean)) (by decide) rfl ?_
  intro p e s m args below meth c s₁ B hml hv
  obtain ⟨rfl, hsz⟩ := hv
  have hx := B.exec
  have hb := B.bytes
  have hr := B.returns
  have hts := atoms_spec (ws := (jk yX13_in cX13_in 3 (some .boolean))) B.pre
  have hown : s.vm.findClass RX13 = some m.cls := findClass_of_methodNamed B.named
  have hlocks := B.notSynchronized
  subst hsz
  have hP : va_P (dC, dI) vwCl [] s.heap := fun k q h => by simp at h
  generalize hAe : (va_A [] s.heap.size) = A
  have hA : ∀ q : Nat, s.heap.size ≤ q → A q := fun q h => by rw [← hAe]; exact Or.inr h
  have hS : va_S A s.heap s.heap [] := va_S.rf
  have hl := lv_entry ([.int p0, .int 19, .int 25]) (n := 3) (Nat.le_of_ble_eq_true rfl)
  rw [lg_entry_eq]
  generalize (lg_sl ([.int p0, .int 19, .int 25]) ++ List.replicate (3 - (lg_sl ([.int p0, .int 19, .int 25])).length) Slot.unset).toArray = ls at hl ⊢
  have hl : lv_has ls 3 [(0, .int p0), (1, .int 19), (2, .int 25)] := hl
  refine lv_iload_n hx hb dX13_in_0 rfl (lv_at hl 0 rfl) ?_
  refine lv_iload_n hx hb dX13_in_1 rfl (lv_at hl 1 rfl) ?_
  refine lv_icmp_lt (tgt := 14) hx hb dX13_in_2 (by decide) (fun c_1 => ?_) (fun c_1 => ?_)
  · refine lv_iconst (v := 0) hx hb dX13_in_14 (by decide) ?_
    exact W.zret (v := 0) (ty := .boolean) hx hb hr rfl (fun t ht hW => ⟨⟨0, (), rfl, (Or.inl ⟨c_1, rfl⟩), trivial⟩, hS.F ht⟩) hS.2.2 dX13_in_15
  · refine lv_iload_n hx hb dX13_in_5 rfl (lv_at hl 0 rfl) ?_
    refine lv_iload_n hx hb dX13_in_6 rfl (lv_at hl 2 rfl) ?_
    refine lv_icmp_gt (tgt := 14) hx hb dX13_in_7 (by decide) (fun c_2 => ?_) (fun c_2 => ?_)
    · refine lv_iconst (v := 0) hx hb dX13_in_14 (by decide) ?_
      exact W.zret (v := 0) (ty := .boolean) hx hb hr rfl (fun t ht hW => ⟨⟨0, (), rfl, (Or.inr (Or.inl ⟨c_1, c_2, rfl⟩)), trivial⟩, hS.F ht⟩) hS.2.2 dX13_in_15
    · refine lv_iconst (v := 1) hx hb dX13_in_10 (by decide) ?_
      refine lv_goto (tgt := 15) hx hb dX13_in_11 (by decide) ?_
      exact W.zret (v := 1) (ty := .boolean) hx hb hr rfl (fun t ht hW => ⟨⟨1, (), rfl, (Or.inr (Or.inr ⟨c_1, c_2, rfl⟩)), trivial⟩, hS.F ht⟩) hS.2.2 dX13_in_15
theorem s_tX13_bound_v4_0 {p2 : Int32} (c_3 : p2 < 19) : 0 = sp_bound 4 p2 := by
  unfold sp_bound
  have g0 : p2.toInt < 19 := ji_lt.mp c_3
  rw [show (4 : Int32).toInt = 4 from rfl]
  split <;> first | rfl | (exfalso; omega)
theorem s_tX13_bound_v4_1 {p2 : Int32} (c_4 : ¬ (p2 < 19)) (c_5 : 25 < p2) : 0 = sp_bound 4 p2 := by
  unfold sp_bound
  have g0 : ¬ (p2.toInt < 19) := fun z => c_4 (ji_lt.mpr z)
  have g1 : 25 < p2.toInt := ji_lt.mp c_5
  rw [show (4 : Int32).toInt = 4 from rfl]
  split <;> first | rfl | (exfalso; omega)
theorem s_tX13_bound_v4_2 {p2 : Int32} (c_6 : ¬ (p2 < 19)) (c_7 : ¬ (25 < p2)) : 1 = sp_bound 4 p2 := by
  unfold sp_bound
  have g0 : ¬ (p2.toInt < 19) := fun z => c_6 (ji_lt.mpr z)
  have g1 : ¬ (25 < p2.toInt) := fun z => c_7 (ji_lt.mpr z)
  rw [show (4 : Int32).toInt = 4 from rfl]
  split <;> first | rfl | (exfalso; omega)
set_option maxHeartbeats 500000 in
set_option maxRecDepth 100000 in
theorem tX13_bound_v4 (l : Launch) (dC : Nat → ClassId) (dI : Nat → Nat → Nat) (sz : Nat) (ad : Nat → Nat) (ca : Nat → ClassId) (p2 : Int32) : Met l yX13_bound (jk yX13_bound cX13_bound 4 (some .boolean)) ({ frames := 1, cells := 0, slots := 0, locals := 22 }) (va_Pc [.ref (ad 0), .int 4, .int p2] (jw_P (dC, dI) (mW ad ca) (mT ca) sz)) (va_Qi (fun (r : Int32) (_ : Unit) => r = sp_bound 4 p2) (fun _ _ => True) (va_A (mW ad ca) sz)) 0 0 (va_A (mW ad ca) sz) := by
  refine Met.ofW (cc := cX13_bound) (maxL := 4) (ret := (some .boolean)) (by decide) rfl ?_
  intro p e s m args below meth c s₁ B hml hv
  obtain ⟨rfl, hsz, hP, hK, hD0⟩ := hv
  have hx := B.exec
  have hb := B.bytes
  have hr := B.returns
  have hts := atoms_spec (ws := (jk yX13_bound cX13_bound 4 (some .boolean))) B.pre
  have hown : s.vm.findClass RX13 = some m.cls := findClass_of_methodNamed B.named
  have hlocks := B.notSynchronized
  subst hsz
  have hD := hD0.self (sz := s.heap.size)
  generalize hAe : (va_A (mW ad ca) s.heap.size) = A at hD ⊢
  have hA : ∀ q : Nat, s.heap.size ≤ q → A q := fun q h => by rw [← hAe]; exact Or.inr h
  have hS : va_S A s.heap s.heap [] := va_S.rf
  have hP : va_P (dC, dI) vwCl (mW ad ca) s.heap := hP
  have hl := lv_entry ([.ref (ad 0), .int 4, .int p2]) (n := 4) (Nat.le_of_ble_eq_true rfl)
  rw [lg_entry_eq]
  generalize (lg_sl ([.ref (ad 0), .int 4, .int p2]) ++ List.replicate (4 - (lg_sl ([.ref (ad 0), .int 4, .int p2])).length) Slot.unset).toArray = ls at hl ⊢
  have hl : lv_has ls 4 [(0, .ref (ad 0)), (1, .int 4), (2, .int p2)] := hl
  refine lv_iload_n hx hb dX13_bound_0 rfl (lv_at hl 1 rfl) ?_
  refine lv_iconst (v := 0) hx hb dX13_bound_1 (by decide) ?_
  refine lv_iconst (v := 4) hx hb dX13_bound_2 (by decide) ?_
  refine jc_i (va_runS (As := [.int 4, .int 0, .int 4]) (rest := []) ⟨hx, hb, hml, hown, hts⟩ (kX13_in_14 l dC dI _) (va_cwS 3 hts (jgoodS m_493 m_494 m_96 m_495) rfl rfl rfl (by decide +kernel) ⟨Nat.le_of_ble_eq_true rfl, Nat.le_of_ble_eq_true rfl⟩) ⟨jw_blind0, fun U hU hW => ⟨rfl, congrArg Array.size hU⟩⟩ rfl rfl hl.1 rfl (lv_room (Nat.le_of_ble_eq_true rfl)) dX13_bound_3 ⟨Nat.le_of_ble_eq_true rfl, Nat.le_of_ble_eq_true rfl⟩) hP hS hA (fun r_1 H locs hw_1 hP hS => ?_)
  have hw_1 : r_1 = 1 := hw_1
  subst hw_1
  refine lv_if_eq (tgt := 50) hx hb dX13_bound_6 (by decide) (fun z => absurd z (by decide)) (fun _ => ?_)
  refine lv_iload_n hx hb dX13_bound_9 rfl (lv_at hl 2 rfl) ?_
  refine lv_iload_n hx hb dX13_bound_10 rfl (lv_at hl 1 rfl) ?_
  refine lv_if_ne (tgt := 18) hx hb dX13_bound_11 (by decide) (fun _ => ?_) (fun z => absurd z (by decide))
  refine lv_aload_n hx hb dX13_bound_18 rfl (lv_at hl 0 rfl) ?_
  refine va_get (D := (dC, dI)) (ci := 13) (v := .ref (ad 19)) (C := RX13) (T := TX13) (N := 104) hx hb hts (jh hin_RX13) hown hK hP 0 rfl rfl 31 (by decide) (hts (.fieldLink RX13 65 "BookOfAllModel" "bounds" "[I") (jm m_20)) (fun _ h9 => h9) rfl dX13_bound_19 ?_
  refine lv_iload_n hx hb dX13_bound_22 rfl (lv_at hl 1 rfl) ?_
  refine lv_iconst (v := 1) hx hb dX13_bound_23 (by decide) ?_
  refine lv_isub hx hb dX13_bound_24 ?_
  refine jt_i 3 (by decide) ?_
  refine va_iald hx hb hK hP 19 18 rfl rfl (vp_in_nI (n := 3) (by decide) (by decide)) dX13_bound_25 ?_
  refine jt_i 19 (by decide) ?_
  refine lv_iload_n hx hb dX13_bound_26 rfl (lv_at hl 1 rfl) ?_
  refine lv_iconst (v := 4) hx hb dX13_bound_27 (by decide) ?_
  refine lv_icmp_ne (tgt := 36) hx hb dX13_bound_28 (by decide) (fun z => absurd (by decide) z) (fun _ => ?_)
  refine lv_bipush (v := 25) hx hb dX13_bound_31 (by decide) ?_
  refine lv_goto (tgt := 44) hx hb dX13_bound_33 (by decide) ?_
  refine jc_i (va_runS (As := [.int p2, .int 19, .int 25]) (rest := []) ⟨hx, hb, hml, hown, hts⟩ (kX13_in_15 l dC dI _ p2) (va_cwS 3 hts (jgoodS m_493 m_494 m_96 m_495) rfl rfl rfl (by decide +kernel) ⟨Nat.le_of_ble_eq_true rfl, Nat.le_of_ble_eq_true rfl⟩) ⟨jw_blind0, fun U hU hW => ⟨rfl, congrArg Array.size hU⟩⟩ rfl rfl hl.1 rfl (lv_room (Nat.le_of_ble_eq_true rfl)) dX13_bound_44 ⟨Nat.le_of_ble_eq_true rfl, Nat.le_of_ble_eq_true rfl⟩) hP hS hA (fun r_2 H locs hw_2 hP hS => ?_)
  rcases (show (p2 < 19 ∧ r_2 = 0) ∨ (¬ (p2 < 19) ∧ 25 < p2 ∧ r_2 = 0) ∨ (¬ (p2 < 19) ∧ ¬ (25 < p2) ∧ r_2 = 1) from hw_2) with ⟨c_3, rfl⟩ | ⟨c_4, c_5, rfl⟩ | ⟨c_6, c_7, rfl⟩
  · refine lv_if_ne (tgt := 52) hx hb dX13_bound_47 (by decide) (fun z => absurd (by decide) z) (fun _ => ?_)
    refine lv_iconst (v := 0) hx hb dX13_bound_50 (by decide) ?_
    exact W.zret (v := 0) (ty := .boolean) hx hb hr rfl (fun t ht hW => ⟨⟨0, (), rfl, (s_tX13_bound_v4_0 (p2 := p2) c_3), trivial⟩, hS.F ht⟩) hS.2.2 dX13_bound_51
  · refine lv_if_ne (tgt := 52) hx hb dX13_bound_47 (by decide) (fun z => absurd (by decide) z) (fun _ => ?_)
    refine lv_iconst (v := 0) hx hb dX13_bound_50 (by decide) ?_
    exact W.zret (v := 0) (ty := .boolean) hx hb hr rfl (fun t ht hW => ⟨⟨0, (), rfl, (s_tX13_bound_v4_1 (p2 := p2) c_4 c_5), trivial⟩, hS.F ht⟩) hS.2.2 dX13_bound_51
  · refine lv_if_ne (tgt := 52) hx hb dX13_bound_47 (by decide) (fun _ => ?_) (fun z => absurd z (by decide))
    refine lv_iconst (v := 0) hx hb dX13_bound_52 (by decide) ?_
    refine lv_istore_n (lv' := [(3, .int 0), (0, .ref (ad 0)), (1, .int 4), (2, .int p2)]) hx hb dX13_bound_53 rfl hl (by decide) rfl (fun ls hl => ?_)
    refine lv_iload_n hx hb dX13_bound_54 rfl (lv_at hl 0 rfl) ?_
    refine lv_bipush (v := 6) hx hb dX13_bound_55 (by decide) ?_
    refine lv_icmp_ge (tgt := 77) hx hb dX13_bound_57 (by decide) (fun z => absurd z (by decide)) (fun _ => ?_)
    refine lv_aload_n hx hb dX13_bound_60 rfl (lv_at hl 1 rfl) ?_
    refine va_get (D := (dC, dI)) (ci := 13) (v := .ref (ad 20)) (C := RX13) (T := TX13) (N := 104) hx hb hts (jh hin_RX13) hown hK hP 0 rfl rfl 32 (by decide) (hts (.fieldLink RX13 68 "BookOfAllModel" "isSet" "[Z") (jm m_22)) (fun _ h9 => h9) rfl dX13_bound_61 ?_
    refine lv_iload_n hx hb dX13_bound_64 rfl (lv_at hl 0 rfl) ?_
    refine va_zald hx hb hK hP 20 19 rfl rfl (vp_in_nI (n := 0) (by decide) (by decide)) dX13_bound_65 ?_
    refine jt_i 0 (by decide) ?_
    refine lv_if_eq (tgt := 71) hx hb dX13_bound_66 (by decide) (fun _ => ?_) (fun z => absurd (by decide) z)
    refine lv_iinc (v := 1) (lv' := [(3, .int 1), (0, .ref (ad 0)), (1, .int 4), (2, .int p2)]) hx hb dX13_bound_71 hl (k := 0) rfl (by decide) (by decide) rfl (fun ls hl => ?_)
    refine lv_goto (tgt := 54) hx hb dX13_bound_74 (by decide) ?_
    refine lv_iload_n hx hb dX13_bound_54 rfl (lv_at hl 0 rfl) ?_
    refine lv_bipush (v := 6) hx hb dX13_bound_55 (by decide) ?_
    refine lv_icmp_ge (tgt := 77) hx hb dX13_bound_57 (by decide) (fun z => absurd z (by decide)) (fun _ => ?_)
    refine lv_aload_n hx hb dX13_bound_60 rfl (lv_at hl 1 rfl) ?_
    refine va_get (D := (dC, dI)) (ci := 13) (v := .ref (ad 20)) (C := RX13) (T := TX13) (N := 104) hx hb hts (jh hin_RX13) hown hK hP 0 rfl rfl 32 (by decide) (hts (.fieldLink RX13 68 "BookOfAllModel" "isSet" "[Z") (jm m_22)) (fun _ h9 => h9) rfl dX13_bound_61 ?_
    refine lv_iload_n hx hb dX13_bound_64 rfl (lv_at hl 0 rfl) ?_
    refine va_zald hx hb hK hP 20 19 rfl rfl (vp_in_nI (n := 1) (by decide) (by decide)) dX13_bound_65 ?_
    refine jt_i 0 (by decide) ?_
    refine lv_if_eq (tgt := 71) hx hb dX13_bound_66 (by decide) (fun _ => ?_) (fun z => absurd (by decide) z)
    refine lv_iinc (v := 2) (lv' := [(3, .int 2), (0, .ref (ad 0)), (1, .int 4), (2, .int p2)]) hx hb dX13_bound_71 hl (k := 0) rfl (by decide) (by decide) rfl (fun ls hl => ?_)
    refine lv_goto (tgt := 54) hx hb dX13_bound_74 (by decide) ?_
    refine lv_iload_n hx hb dX13_bound_54 rfl (lv_at hl 0 rfl) ?_
    refine lv_bipush (v := 6) hx hb dX13_bound_55 (by decide) ?_
    refine lv_icmp_ge (tgt := 77) hx hb dX13_bound_57 (by decide) (fun z => absurd z (by decide)) (fun _ => ?_)
    refine lv_aload_n hx hb dX13_bound_60 rfl (lv_at hl 1 rfl) ?_
    refine va_get (D := (dC, dI)) (ci := 13) (v := .ref (ad 20)) (C := RX13) (T := TX13) (N := 104) hx hb hts (jh hin_RX13) hown hK hP 0 rfl rfl 32 (by decide) (hts (.fieldLink RX13 68 "BookOfAllModel" "isSet" "[Z") (jm m_22)) (fun _ h9 => h9) rfl dX13_bound_61 ?_
    refine lv_iload_n hx hb dX13_bound_64 rfl (lv_at hl 0 rfl) ?_
    refine va_zald hx hb hK hP 20 19 rfl rfl (vp_in_nI (n := 2) (by decide) (by decide)) dX13_bound_65 ?_
    refine jt_i 0 (by decide) ?_
    refine lv_if_eq (tgt := 71) hx hb dX13_bound_66 (by decide) (fun _ => ?_) (fun z => absurd (by decide) z)
    refine lv_iinc (v := 3) (lv' := [(3, .int 3), (0, .ref (ad 0)), (1, .int 4), (2, .int p2)]) hx hb dX13_bound_71 hl (k := 0) rfl (by decide) (by decide) rfl (fun ls hl => ?_)
    refine lv_goto (tgt := 54) hx hb dX13_bound_74 (by decide) ?_
    refine lv_iload_n hx hb dX13_bound_54 rfl (lv_at hl 0 rfl) ?_
    refine lv_bipush (v := 6) hx hb dX13_bound_55 (by decide) ?_
    refine lv_icmp_ge (tgt := 77) hx hb dX13_bound_57 (by decide) (fun z => absurd z (by decide)) (fun _ => ?_)
    refine lv_aload_n hx hb dX13_bound_60 rfl (lv_at hl 1 rfl) ?_
    refine va_get (D := (dC, dI)) (ci := 13) (v := .ref (ad 20)) (C := RX13) (T := TX13) (N := 104) hx hb hts (jh hin_RX13) hown hK hP 0 rfl rfl 32 (by decide) (hts (.fieldLink RX13 68 "BookOfAllModel" "isSet" "[Z") (jm m_22)) (fun _ h9 => h9) rfl dX13_bound_61 ?_
    refine lv_iload_n hx hb dX13_bound_64 rfl (lv_at hl 0 rfl) ?_
    refine va_zald hx hb hK hP 20 19 rfl rfl (vp_in_nI (n := 3) (by decide) (by decide)) dX13_bound_65 ?_
    refine jt_i 0 (by decide) ?_
    refine lv_if_eq (tgt := 71) hx hb dX13_bound_66 (by decide) (fun _ => ?_) (fun z => absurd (by decide) z)
    refine lv_iinc (v := 4) (lv' := [(3, .int 4), (0, .ref (ad 0)), (1, .int 4), (2, .int p2)]) hx hb dX13_bound_71 hl (k := 0) rfl (by decide) (by decide) rfl (fun ls hl => ?_)
    refine lv_goto (tgt := 54) hx hb dX13_bound_74 (by decide) ?_
    refine lv_iload_n hx hb dX13_bound_54 rfl (lv_at hl 0 rfl) ?_
    refine lv_bipush (v := 6) hx hb dX13_bound_55 (by decide) ?_
    refine lv_icmp_ge (tgt := 77) hx hb dX13_bound_57 (by decide) (fun z => absurd z (by decide)) (fun _ => ?_)
    refine lv_aload_n hx hb dX13_bound_60 rfl (lv_at hl 1 rfl) ?_
    refine va_get (D := (dC, dI)) (ci := 13) (v := .ref (ad 20)) (C := RX13) (T := TX13) (N := 104) hx hb hts (jh hin_RX13) hown hK hP 0 rfl rfl 32 (by decide) (hts (.fieldLink RX13 68 "BookOfAllModel" "isSet" "[Z") (jm m_22)) (fun _ h9 => h9) rfl dX13_bound_61 ?_
    refine lv_iload_n hx hb dX13_bound_64 rfl (lv_at hl 0 rfl) ?_
    refine va_zald hx hb hK hP 20 19 rfl rfl (vp_in_nI (n := 4) (by decide) (by decide)) dX13_bound_65 ?_
    refine jt_i 0 (by decide) ?_
    refine lv_if_eq (tgt := 71) hx hb dX13_bound_66 (by decide) (fun _ => ?_) (fun z => absurd (by decide) z)
    refine lv_iinc (v := 5) (lv' := [(3, .int 5), (0, .ref (ad 0)), (1, .int 4), (2, .int p2)]) hx hb dX13_bound_71 hl (k := 0) rfl (by decide) (by decide) rfl (fun ls hl => ?_)
    refine lv_goto (tgt := 54) hx hb dX13_bound_74 (by decide) ?_
    refine lv_iload_n hx hb dX13_bound_54 rfl (lv_at hl 0 rfl) ?_
    refine lv_bipush (v := 6) hx hb dX13_bound_55 (by decide) ?_
    refine lv_icmp_ge (tgt := 77) hx hb dX13_bound_57 (by decide) (fun z => absurd z (by decide)) (fun _ => ?_)
    refine lv_aload_n hx hb dX13_bound_60 rfl (lv_at hl 1 rfl) ?_
    refine va_get (D := (dC, dI)) (ci := 13) (v := .ref (ad 20)) (C := RX13) (T := TX13) (N := 104) hx hb hts (jh hin_RX13) hown hK hP 0 rfl rfl 32 (by decide) (hts (.fieldLink RX13 68 "BookOfAllModel" "isSet" "[Z") (jm m_22)) (fun _ h9 => h9) rfl dX13_bound_61 ?_
    refine lv_iload_n hx hb dX13_bound_64 rfl (lv_at hl 0 rfl) ?_
    refine va_zald hx hb hK hP 20 19 rfl rfl (vp_in_nI (n := 5) (by decide) (by decide)) dX13_bound_65 ?_
    refine jt_i 0 (by decide) ?_
    refine lv_if_eq (tgt := 71) hx hb dX13_bound_66 (by decide) (fun _ => ?_) (fun z => absurd (by decide) z)
    refine lv_iinc (v := 6) (lv' := [(3, .int 6), (0, .ref (ad 0)), (1, .int 4), (2, .int p2)]) hx hb dX13_bound_71 hl (k := 0) rfl (by decide) (by decide) rfl (fun ls hl => ?_)
    refine lv_goto (tgt := 54) hx hb dX13_bound_74 (by decide) ?_
    refine lv_iload_n hx hb dX13_bound_54 rfl (lv_at hl 0 rfl) ?_
    refine lv_bipush (v := 6) hx hb dX13_bound_55 (by decide) ?_
    refine lv_icmp_ge (tgt := 77) hx hb dX13_bound_57 (by decide) (fun _ => ?_) (fun z => absurd (by decide) z)
    refine lv_aload_n hx hb dX13_bound_77 rfl (lv_at hl 1 rfl) ?_
    refine va_get (D := (dC, dI)) (ci := 13) (v := .ref (ad 19)) (C := RX13) (T := TX13) (N := 104) hx hb hts (jh hin_RX13) hown hK hP 0 rfl rfl 31 (by decide) (hts (.fieldLink RX13 65 "BookOfAllModel" "bounds" "[I") (jm m_20)) (fun _ h9 => h9) rfl dX13_bound_78 ?_
    refine lv_iload_n hx hb dX13_bound_81 rfl (lv_at hl 2 rfl) ?_
    refine lv_iload_n hx hb dX13_bound_82 rfl (lv_at hl 3 rfl) ?_
    refine va_iast hx hb hK hP hD hS 19 18 rfl rfl (vp_in_nI (n := 4) (by decide) (by decide)) dX13_bound_83 (fun H locs hP hD hS => ?_)
    refine lv_iconst (v := 1) hx hb dX13_bound_84 (by decide) ?_
    exact W.zret (v := 1) (ty := .boolean) hx hb hr rfl (fun t ht hW => ⟨⟨1, (), rfl, (s_tX13_bound_v4_2 (p2 := p2) c_6 c_7), trivial⟩, hS.F ht⟩) hS.2.2 dX13_bound_85
set_option maxHeartbeats 500000 in
set_option maxRecDepth 100000 in
theorem kX13_in_16 (l : Launch) (dC : Nat → ClassId) (dI : Nat → Nat → Nat) (sz : Nat) : Met l yX13_in (jk yX13_in cX13_in 3 (some .boolean)) ({ frames := 0, cells := 0, slots := 0, locals := 0 }) (va_Pc [.int 5, .int 0, .int 4] (fun U => U.heap.size = sz)) (va_Qi (fun (r : Int32) (_ : Unit) => (r = 0)) (fun _ _ => True) (va_A [] sz)) 0 0 (va_A [] sz) := by
  refine Met.ofW (cc := cX13_in) (maxL := 3) (ret := (some .boolean)) (by decide) rfl ?_
  intro p e s m args below meth c s₁ B hml hv
  obtain ⟨rfl, hsz⟩ := hv
  have hx := B.exec
  have hb := B.bytes
  have hr := B.returns
  have hts := atoms_spec (ws := (jk yX13_in cX13_in 3 (some .boolean))) B.pre
  have hown : s.vm.findClass RX13 = some m.cls := findClass_of_methodNamed B.named
  have hlocks := B.notSynchronized
  subst hsz
  have hP : va_P (dC, dI) vwCl [] s.heap := fun k q h => by simp at h
  generalize hAe : (va_A [] s.heap.size) = A
  have hA : ∀ q : Nat, s.heap.size ≤ q → A q := fun q h => by rw [← hAe]; exact Or.inr h
  have hS : va_S A s.heap s.heap [] := va_S.rf
  have hl := lv_entry ([.int 5, .int 0, .int 4]) (n := 3) (Nat.le_of_ble_eq_true rfl)
  rw [lg_entry_eq]
  generalize (lg_sl ([.int 5, .int 0, .int 4]) ++ List.replicate (3 - (lg_sl ([.int 5, .int 0, .int 4])).length) Slot.unset).toArray = ls at hl ⊢
  have hl : lv_has ls 3 [(0, .int 5), (1, .int 0), (2, .int 4)] := hl
  refine lv_iload_n hx hb dX13_in_0 rfl (lv_at hl 0 rfl) ?_
  refine lv_iload_n hx hb dX13_in_1 rfl (lv_at hl 1 rfl) ?_
  refine lv_icmp_lt (tgt := 14) hx hb dX13_in_2 (by decide) (fun z => absurd z (by decide)) (fun _ => ?_)
  refine lv_iload_n hx hb dX13_in_5 rfl (lv_at hl 0 rfl) ?_
  refine lv_iload_n hx hb dX13_in_6 rfl (lv_at hl 2 rfl) ?_
  refine lv_icmp_gt (tgt := 14) hx hb dX13_in_7 (by decide) (fun _ => ?_) (fun z => absurd (by decide) z)
  refine lv_iconst (v := 0) hx hb dX13_in_14 (by decide) ?_
  exact W.zret (v := 0) (ty := .boolean) hx hb hr rfl (fun t ht hW => ⟨⟨0, (), rfl, rfl, trivial⟩, hS.F ht⟩) hS.2.2 dX13_in_15
theorem s_tX13_bound_v5_0 {p2 : Int32}  : 0 = sp_bound 5 p2 := by
  unfold sp_bound
  rw [show (5 : Int32).toInt = 5 from rfl]
  split <;> first | rfl | (exfalso; omega)
set_option maxHeartbeats 500000 in
set_option maxRecDepth 100000 in
theorem tX13_bound_v5 (l : Launch) (dC : Nat → ClassId) (dI : Nat → Nat → Nat) (sz : Nat) (ad : Nat → Nat) (ca : Nat → ClassId) (p2 : Int32) : Met l yX13_bound (jk yX13_bound cX13_bound 4 (some .boolean)) ({ frames := 1, cells := 0, slots := 0, locals := 22 }) (va_Pc [.ref (ad 0), .int 5, .int p2] (jw_P (dC, dI) (mW ad ca) (mT ca) sz)) (va_Qi (fun (r : Int32) (_ : Unit) => r = sp_bound 5 p2) (fun _ _ => True) (va_A [] sz)) 0 0 (va_A [] sz) := by
  refine Met.ofW (cc := cX13_bound) (maxL := 4) (ret := (some .boolean)) (by decide) rfl ?_
  intro p e s m args below meth c s₁ B hml hv
  obtain ⟨rfl, hsz, hP, hK, hD0⟩ := hv
  have hx := B.exec
  have hb := B.bytes
  have hr := B.returns
  have hts := atoms_spec (ws := (jk yX13_bound cX13_bound 4 (some .boolean))) B.pre
  have hown : s.vm.findClass RX13 = some m.cls := findClass_of_methodNamed B.named
  have hlocks := B.notSynchronized
  subst hsz
  have hD := hD0
  generalize hAe : (va_A [] s.heap.size) = A
  have hA : ∀ q : Nat, s.heap.size ≤ q → A q := fun q h => by rw [← hAe]; exact Or.inr h
  have hS : va_S A s.heap s.heap [] := va_S.rf
  have hP : va_P (dC, dI) vwCl (mW ad ca) s.heap := hP
  have hl := lv_entry ([.ref (ad 0), .int 5, .int p2]) (n := 4) (Nat.le_of_ble_eq_true rfl)
  rw [lg_entry_eq]
  generalize (lg_sl ([.ref (ad 0), .int 5, .int p2]) ++ List.replicate (4 - (lg_sl ([.ref (ad 0), .int 5, .int p2])).length) Slot.unset).toArray = ls at hl ⊢
  have hl : lv_has ls 4 [(0, .ref (ad 0)), (1, .int 5), (2, .int p2)] := hl
  refine lv_iload_n hx hb dX13_bound_0 rfl (lv_at hl 1 rfl) ?_
  refine lv_iconst (v := 0) hx hb dX13_bound_1 (by decide) ?_
  refine lv_iconst (v := 4) hx hb dX13_bound_2 (by decide) ?_
  refine jc_i (va_runS (As := [.int 5, .int 0, .int 4]) (rest := []) ⟨hx, hb, hml, hown, hts⟩ (kX13_in_16 l dC dI _) (va_cwS 3 hts (jgoodS m_493 m_494 m_96 m_495) rfl rfl rfl (by decide +kernel) ⟨Nat.le_of_ble_eq_true rfl, Nat.le_of_ble_eq_true rfl⟩) ⟨jw_blind0, fun U hU hW => ⟨rfl, congrArg Array.size hU⟩⟩ rfl rfl hl.1 rfl (lv_room (Nat.le_of_ble_eq_true rfl)) dX13_bound_3 ⟨Nat.le_of_ble_eq_true rfl, Nat.le_of_ble_eq_true rfl⟩) hP hS hA (fun r_1 H locs hw_1 hP hS => ?_)
  have hw_1 : r_1 = 0 := hw_1
  subst hw_1
  refine lv_if_eq (tgt := 50) hx hb dX13_bound_6 (by decide) (fun _ => ?_) (fun z => absurd (by decide) z)
  refine lv_iconst (v := 0) hx hb dX13_bound_50 (by decide) ?_
  exact W.zret (v := 0) (ty := .boolean) hx hb hr rfl (fun t ht hW => ⟨⟨0, (), rfl, (s_tX13_bound_v5_0 (p2 := p2)), trivial⟩, hS.F ht⟩) hS.2.2 dX13_bound_51
theorem s_tX13_bound_lo_0 {p1 p2 : Int32} (fh_p1 : p1 ≤ (-1)) (c_2 : p1 < 0) : 0 = sp_bound p1 p2 := by
  unfold sp_bound
  have g0 : p1.toInt ≤ (-1) := ji_le.mp fh_p1
  have g1 : p1.toInt < 0 := ji_lt.mp c_2
  split <;> first | rfl | (exfalso; omega)
set_option maxHeartbeats 500000 in
set_option maxRecDepth 100000 in
theorem tX13_bound_lo (l : Launch) (dC : Nat → ClassId) (dI : Nat → Nat → Nat) (sz : Nat) (ad : Nat → Nat) (ca : Nat → ClassId) (p1 : Int32) (p2 : Int32) (fh_p1 : p1 ≤ (-1)) : Met l yX13_bound (jk yX13_bound cX13_bound 4 (some .boolean)) ({ frames := 1, cells := 0, slots := 0, locals := 22 }) (va_Pc [.ref (ad 0), .int p1, .int p2] (jw_P (dC, dI) (mW ad ca) (mT ca) sz)) (va_Qi (fun (r : Int32) (_ : Unit) => r = sp_bound p1 p2) (fun _ _ => True) (va_A [] sz)) 0 0 (va_A [] sz) := by
  refine Met.ofW (cc := cX13_bound) (maxL := 4) (ret := (some .boolean)) (by decide) rfl ?_
  intro p e s m args below meth c s₁ B hml hv
  obtain ⟨rfl, hsz, hP, hK, hD0⟩ := hv
  have hx := B.exec
  have hb := B.bytes
  have hr := B.returns
  have hts := atoms_spec (ws := (jk yX13_bound cX13_bound 4 (some .boolean))) B.pre
  have hown : s.vm.findClass RX13 = some m.cls := findClass_of_methodNamed B.named
  have hlocks := B.notSynchronized
  subst hsz
  have hD := hD0
  generalize hAe : (va_A [] s.heap.size) = A
  have hA : ∀ q : Nat, s.heap.size ≤ q → A q := fun q h => by rw [← hAe]; exact Or.inr h
  have hS : va_S A s.heap s.heap [] := va_S.rf
  have hP : va_P (dC, dI) vwCl (mW ad ca) s.heap := hP
  have hl := lv_entry ([.ref (ad 0), .int p1, .int p2]) (n := 4) (Nat.le_of_ble_eq_true rfl)
  rw [lg_entry_eq]
  generalize (lg_sl ([.ref (ad 0), .int p1, .int p2]) ++ List.replicate (4 - (lg_sl ([.ref (ad 0), .int p1, .int p2])).length) Slot.unset).toArray = ls at hl ⊢
  have hl : lv_has ls 4 [(0, .ref (ad 0)), (1, .int p1), (2, .int p2)] := hl
  refine lv_iload_n hx hb dX13_bound_0 rfl (lv_at hl 1 rfl) ?_
  refine lv_iconst (v := 0) hx hb dX13_bound_1 (by decide) ?_
  refine lv_iconst (v := 4) hx hb dX13_bound_2 (by decide) ?_
  refine jc_i (va_runS (As := [.int p1, .int 0, .int 4]) (rest := []) ⟨hx, hb, hml, hown, hts⟩ (kX13_in_3 l dC dI _ p1) (va_cwS 3 hts (jgoodS m_493 m_494 m_96 m_495) rfl rfl rfl (by decide +kernel) ⟨Nat.le_of_ble_eq_true rfl, Nat.le_of_ble_eq_true rfl⟩) ⟨jw_blind0, fun U hU hW => ⟨rfl, congrArg Array.size hU⟩⟩ rfl rfl hl.1 rfl (lv_room (Nat.le_of_ble_eq_true rfl)) dX13_bound_3 ⟨Nat.le_of_ble_eq_true rfl, Nat.le_of_ble_eq_true rfl⟩) hP hS hA (fun r_1 H locs hw_1 hP hS => ?_)
  rcases (show (p1 < 0 ∧ r_1 = 0) ∨ (¬ (p1 < 0) ∧ 4 < p1 ∧ r_1 = 0) ∨ (¬ (p1 < 0) ∧ ¬ (4 < p1) ∧ r_1 = 1) from hw_1) with ⟨c_2, rfl⟩ | ⟨c_3, c_4, rfl⟩ | ⟨c_5, c_6, rfl⟩
  · refine lv_if_eq (tgt := 50) hx hb dX13_bound_6 (by decide) (fun _ => ?_) (fun z => absurd (by decide) z)
    refine lv_iconst (v := 0) hx hb dX13_bound_50 (by decide) ?_
    exact W.zret (v := 0) (ty := .boolean) hx hb hr rfl (fun t ht hW => ⟨⟨0, (), rfl, (s_tX13_bound_lo_0 (p1 := p1) (p2 := p2) fh_p1 c_2), trivial⟩, hS.F ht⟩) hS.2.2 dX13_bound_51
  · exact (jx_no (jl_gt (d := 5) c_4 (by decide)) fh_p1 (by decide)).elim
  · exact (jx_no (jl_nlt c_5) fh_p1 (by decide)).elim
theorem s_tX13_bound_hi_0 {p1 p2 : Int32} (fl_p1 : 6 ≤ p1) (c_3 : ¬ (p1 < 0)) (c_4 : 4 < p1) : 0 = sp_bound p1 p2 := by
  unfold sp_bound
  have g0 : 6 ≤ p1.toInt := ji_le.mp fl_p1
  have g1 : ¬ (p1.toInt < 0) := fun z => c_3 (ji_lt.mpr z)
  have g2 : 4 < p1.toInt := ji_lt.mp c_4
  split <;> first | rfl | (exfalso; omega)
set_option maxHeartbeats 500000 in
set_option maxRecDepth 100000 in
theorem tX13_bound_hi (l : Launch) (dC : Nat → ClassId) (dI : Nat → Nat → Nat) (sz : Nat) (ad : Nat → Nat) (ca : Nat → ClassId) (p1 : Int32) (p2 : Int32) (fl_p1 : 6 ≤ p1) : Met l yX13_bound (jk yX13_bound cX13_bound 4 (some .boolean)) ({ frames := 1, cells := 0, slots := 0, locals := 22 }) (va_Pc [.ref (ad 0), .int p1, .int p2] (jw_P (dC, dI) (mW ad ca) (mT ca) sz)) (va_Qi (fun (r : Int32) (_ : Unit) => r = sp_bound p1 p2) (fun _ _ => True) (va_A [] sz)) 0 0 (va_A [] sz) := by
  refine Met.ofW (cc := cX13_bound) (maxL := 4) (ret := (some .boolean)) (by decide) rfl ?_
  intro p e s m args below meth c s₁ B hml hv
  obtain ⟨rfl, hsz, hP, hK, hD0⟩ := hv
  have hx := B.exec
  have hb := B.bytes
  have hr := B.returns
  have hts := atoms_spec (ws := (jk yX13_bound cX13_bound 4 (some .boolean))) B.pre
  have hown : s.vm.findClass RX13 = some m.cls := findClass_of_methodNamed B.named
  have hlocks := B.notSynchronized
  subst hsz
  have hD := hD0
  generalize hAe : (va_A [] s.heap.size) = A
  have hA : ∀ q : Nat, s.heap.size ≤ q → A q := fun q h => by rw [← hAe]; exact Or.inr h
  have hS : va_S A s.heap s.heap [] := va_S.rf
  have hP : va_P (dC, dI) vwCl (mW ad ca) s.heap := hP
  have hl := lv_entry ([.ref (ad 0), .int p1, .int p2]) (n := 4) (Nat.le_of_ble_eq_true rfl)
  rw [lg_entry_eq]
  generalize (lg_sl ([.ref (ad 0), .int p1, .int p2]) ++ List.replicate (4 - (lg_sl ([.ref (ad 0), .int p1, .int p2])).length) Slot.unset).toArray = ls at hl ⊢
  have hl : lv_has ls 4 [(0, .ref (ad 0)), (1, .int p1), (2, .int p2)] := hl
  refine lv_iload_n hx hb dX13_bound_0 rfl (lv_at hl 1 rfl) ?_
  refine lv_iconst (v := 0) hx hb dX13_bound_1 (by decide) ?_
  refine lv_iconst (v := 4) hx hb dX13_bound_2 (by decide) ?_
  refine jc_i (va_runS (As := [.int p1, .int 0, .int 4]) (rest := []) ⟨hx, hb, hml, hown, hts⟩ (kX13_in_3 l dC dI _ p1) (va_cwS 3 hts (jgoodS m_493 m_494 m_96 m_495) rfl rfl rfl (by decide +kernel) ⟨Nat.le_of_ble_eq_true rfl, Nat.le_of_ble_eq_true rfl⟩) ⟨jw_blind0, fun U hU hW => ⟨rfl, congrArg Array.size hU⟩⟩ rfl rfl hl.1 rfl (lv_room (Nat.le_of_ble_eq_true rfl)) dX13_bound_3 ⟨Nat.le_of_ble_eq_true rfl, Nat.le_of_ble_eq_true rfl⟩) hP hS hA (fun r_1 H locs hw_1 hP hS => ?_)
  rcases (show (p1 < 0 ∧ r_1 = 0) ∨ (¬ (p1 < 0) ∧ 4 < p1 ∧ r_1 = 0) ∨ (¬ (p1 < 0) ∧ ¬ (4 < p1) ∧ r_1 = 1) from hw_1) with ⟨c_2, rfl⟩ | ⟨c_3, c_4, rfl⟩ | ⟨c_5, c_6, rfl⟩
  · exact (jx_no fl_p1 (jl_lt (d := (-1)) c_2 (by decide)) (by decide)).elim
  · refine lv_if_eq (tgt := 50) hx hb dX13_bound_6 (by decide) (fun _ => ?_) (fun z => absurd (by decide) z)
    refine lv_iconst (v := 0) hx hb dX13_bound_50 (by decide) ?_
    exact W.zret (v := 0) (ty := .boolean) hx hb hr rfl (fun t ht hW => ⟨⟨0, (), rfl, (s_tX13_bound_hi_0 (p1 := p1) (p2 := p2) fl_p1 c_3 c_4), trivial⟩, hS.F ht⟩) hS.2.2 dX13_bound_51
  · exact (jx_no fl_p1 (jl_ngt c_6) (by decide)).elim
set_option maxHeartbeats 500000 in
set_option maxRecDepth 100000 in
theorem kX13_in_17 (l : Launch) (dC : Nat → ClassId) (dI : Nat → Nat → Nat) (sz : Nat) (p0 : Int32) : Met l yX13_in (jk yX13_in cX13_in 3 (some .boolean)) ({ frames := 0, cells := 0, slots := 0, locals := 0 }) (va_Pc [.int p0, .int 1, .int 200] (fun U => U.heap.size = sz)) (va_Qi (fun (r : Int32) (_ : Unit) => (p0 < 1 ∧ r = 0) ∨ (¬ (p0 < 1) ∧ 200 < p0 ∧ r = 0) ∨ (¬ (p0 < 1) ∧ ¬ (200 < p0) ∧ r = 1)) (fun _ _ => True) (va_A [] sz)) 0 0 (va_A [] sz) := by
  refine Met.ofW (cc := cX13_in) (maxL := 3) (ret := (some .boolean)) (by decide) rfl ?_
  intro p e s m args below meth c s₁ B hml hv
  obtain ⟨rfl, hsz⟩ := hv
  have hx := B.exec
  have hb := B.bytes
  have hr := B.returns
  have hts := atoms_spec (ws := (jk yX13_in cX13_in 3 (some .boolean))) B.pre
  have hown : s.vm.findClass RX13 = some m.cls := findClass_of_methodNamed B.named
  have hlocks := B.notSynchronized
  subst hsz
  have hP : va_P (dC, dI) vwCl [] s.heap := fun k q h => by simp at h
  generalize hAe : (va_A [] s.heap.size) = A
  have hA : ∀ q : Nat, s.heap.size ≤ q → A q := fun q h => by rw [← hAe]; exact Or.inr h
  have hS : va_S A s.heap s.heap [] := va_S.rf
  have hl := lv_entry ([.int p0, .int 1, .int 200]) (n := 3) (Nat.le_of_ble_eq_true rfl)
  rw [lg_entry_eq]
  generalize (lg_sl ([.int p0, .int 1, .int 200]) ++ List.replicate (3 - (lg_sl ([.int p0, .int 1, .int 200])).length) Slot.unset).toArray = ls at hl ⊢
  have hl : lv_has ls 3 [(0, .int p0), (1, .int 1), (2, .int 200)] := hl
  refine lv_iload_n hx hb dX13_in_0 rfl (lv_at hl 0 rfl) ?_
  refine lv_iload_n hx hb dX13_in_1 rfl (lv_at hl 1 rfl) ?_
  refine lv_icmp_lt (tgt := 14) hx hb dX13_in_2 (by decide) (fun c_1 => ?_) (fun c_1 => ?_)
  · refine lv_iconst (v := 0) hx hb dX13_in_14 (by decide) ?_
    exact W.zret (v := 0) (ty := .boolean) hx hb hr rfl (fun t ht hW => ⟨⟨0, (), rfl, (Or.inl ⟨c_1, rfl⟩), trivial⟩, hS.F ht⟩) hS.2.2 dX13_in_15
  · refine lv_iload_n hx hb dX13_in_5 rfl (lv_at hl 0 rfl) ?_
    refine lv_iload_n hx hb dX13_in_6 rfl (lv_at hl 2 rfl) ?_
    refine lv_icmp_gt (tgt := 14) hx hb dX13_in_7 (by decide) (fun c_2 => ?_) (fun c_2 => ?_)
    · refine lv_iconst (v := 0) hx hb dX13_in_14 (by decide) ?_
      exact W.zret (v := 0) (ty := .boolean) hx hb hr rfl (fun t ht hW => ⟨⟨0, (), rfl, (Or.inr (Or.inl ⟨c_1, c_2, rfl⟩)), trivial⟩, hS.F ht⟩) hS.2.2 dX13_in_15
    · refine lv_iconst (v := 1) hx hb dX13_in_10 (by decide) ?_
      refine lv_goto (tgt := 15) hx hb dX13_in_11 (by decide) ?_
      exact W.zret (v := 1) (ty := .boolean) hx hb hr rfl (fun t ht hW => ⟨⟨1, (), rfl, (Or.inr (Or.inr ⟨c_1, c_2, rfl⟩)), trivial⟩, hS.F ht⟩) hS.2.2 dX13_in_15
set_option maxHeartbeats 500000 in
set_option maxRecDepth 100000 in
theorem kX13_newEntry_3 (l : Launch) (dC : Nat → ClassId) (dI : Nat → Nat → Nat) (sz : Nat) (ad : Nat → Nat) (ca : Nat → ClassId) (w0 : Nat → Int32) (p2 : Int32) : Met l yX13_newEntry (jk yX13_newEntry cX13_newEntry 4 (some .int)) ({ frames := 0, cells := 0, slots := 0, locals := 0 }) (va_Pc [.ref (ad 0), .int 0, .int p2] (jw_P (dC, dI) (((mW ad ca).set 66 (ad 66, .inl ((ca 66), 12, .inl w0)))) (mT ca) sz)) (va_Qi (fun (r : Int32) (_ : Unit) => (r = 0)) (fun _ t => va_P (dC, dI) vwCl (((((((((((((((((((mW ad ca).set 66 (ad 66, .inl ((ca 66), 12, .inl w0)))).set 0 (ad 0, .inr (13, [.ref (ad 1), .int 0, .int 0, .int 0, .int 0, .int 0, .ref (ad 2), .int 0, .int 0, .int 0, .ref (ad 3), .ref (ad 4), .int 0, .ref (ad 5), .ref (ad 6), .int 0, .ref (ad 7), .ref (ad 8), .int 0, .ref (ad 9), .ref (ad 10), .ref (ad 11), .ref (ad 12), .ref (ad 13), .ref (ad 14), .ref (ad 15), .int 0, .ref (ad 16), .ref (ad 17), .ref (ad 18), .int 0, .ref (ad 19), .ref (ad 20), .ref (ad 21), .ref (ad 22), .ref (ad 23), .ref (ad 24), .int 1, .ref (ad 25), .ref (ad 26), .ref (ad 27), .ref (ad 28), .ref (ad 29), .ref (ad 30), .ref (ad 31), .ref (ad 32), .ref (ad 33), .ref (ad 34), .ref (ad 35), .ref (ad 36), .int 0, .ref (ad 37), .ref (ad 38), .ref (ad 39), .ref (ad 40), .ref (ad 41), .int 0, .ref (ad 42), .ref (ad 43), .ref (ad 44), .ref (ad 45), .ref (ad 46), .ref (ad 47), .ref (ad 48), .ref (ad 49), .ref (ad 50), .int 0, .ref (ad 51), .ref (ad 52), .ref (ad 53), .ref (ad 54), .int 0, .ref (ad 55), .ref (ad 56), .ref (ad 57), .ref (ad 58), .ref (ad 59), .ref (ad 60), .int 0, .ref (ad 61), .ref (ad 62), .ref (ad 63), .ref (ad 64), .ref (ad 65), .ref (ad 66), .ref (ad 67), .int 0, .ref (ad 68), .ref (ad 69), .ref (ad 70), .int 0, .ref (ad 71), .ref (ad 72), .ref (ad 73), .ref (ad 74), .ref (ad 75), .int 0, .int 0, .int 0, .int 0, .int 0, .ref (ad 76), .ref (ad 77), .ref (ad 78)])))).set 25 (ad 25, .inl ((ca 25), 720, .inl (upd (upd (upd (upd (upd (upd (upd (upd (upd (upd (upd (upd (fun _ => 0) 0 (vp_nar .byte (w0 (Int32.toNatClampNeg 0)))) 1 (vp_nar .byte (w0 (Int32.toNatClampNeg 1)))) 2 (vp_nar .byte (w0 (Int32.toNatClampNeg 2)))) 3 (vp_nar .byte (w0 (Int32.toNatClampNeg 3)))) 4 (vp_nar .byte (w0 (Int32.toNatClampNeg 4)))) 5 (vp_nar .byte (w0 (Int32.toNatClampNeg 5)))) 6 (vp_nar .byte (w0 (Int32.toNatClampNeg 6)))) 7 (vp_nar .byte (w0 (Int32.toNatClampNeg 7)))) 8 (vp_nar .byte (w0 (Int32.toNatClampNeg 8)))) 9 (vp_nar .byte (w0 (Int32.toNatClampNeg 9)))) 10 (vp_nar .byte (w0 (Int32.toNatClampNeg 10)))) 11 (vp_nar .byte (w0 (Int32.toNatClampNeg 11)))))))).set 26 (ad 26, .inl ((ca 26), 60, .inl (upd (fun _ => 0) 0 p2))))).set 27 (ad 27, .inl ((ca 27), 60, .inl (upd (fun _ => 0) 0 0))))).set 31 (ad 31, .inl ((ca 31), 60, .inl (upd (fun _ => 0) 0 (-1)))))).set 32 (ad 32, .inl ((ca 32), 60, .inl (upd (fun _ => 0) 0 (-1)))))).set 35 (ad 35, .inl ((ca 35), 60, .inl (upd (fun _ => 0) 0 (-1)))))).set 36 (ad 36, .inl ((ca 36), 60, .inl (upd (fun _ => 0) 0 (-1)))))) t.heap ∧ va_K (dC, dI) vwCl (mT ca) t ∧ va_D (va_A (((mW ad ca).set 66 (ad 66, .inl ((ca 66), 12, .inl w0)))) sz) (((((((((((((((((((mW ad ca).set 66 (ad 66, .inl ((ca 66), 12, .inl w0)))).set 0 (ad 0, .inr (13, [.ref (ad 1), .int 0, .int 0, .int 0, .int 0, .int 0, .ref (ad 2), .int 0, .int 0, .int 0, .ref (ad 3), .ref (ad 4), .int 0, .ref (ad 5), .ref (ad 6), .int 0, .ref (ad 7), .ref (ad 8), .int 0, .ref (ad 9), .ref (ad 10), .ref (ad 11), .ref (ad 12), .ref (ad 13), .ref (ad 14), .ref (ad 15), .int 0, .ref (ad 16), .ref (ad 17), .ref (ad 18), .int 0, .ref (ad 19), .ref (ad 20), .ref (ad 21), .ref (ad 22), .ref (ad 23), .ref (ad 24), .int 1, .ref (ad 25), .ref (ad 26), .ref (ad 27), .ref (ad 28), .ref (ad 29), .ref (ad 30), .ref (ad 31), .ref (ad 32), .ref (ad 33), .ref (ad 34), .ref (ad 35), .ref (ad 36), .int 0, .ref (ad 37), .ref (ad 38), .ref (ad 39), .ref (ad 40), .ref (ad 41), .int 0, .ref (ad 42), .ref (ad 43), .ref (ad 44), .ref (ad 45), .ref (ad 46), .ref (ad 47), .ref (ad 48), .ref (ad 49), .ref (ad 50), .int 0, .ref (ad 51), .ref (ad 52), .ref (ad 53), .ref (ad 54), .int 0, .ref (ad 55), .ref (ad 56), .ref (ad 57), .ref (ad 58), .ref (ad 59), .ref (ad 60), .int 0, .ref (ad 61), .ref (ad 62), .ref (ad 63), .ref (ad 64), .ref (ad 65), .ref (ad 66), .ref (ad 67), .int 0, .ref (ad 68), .ref (ad 69), .ref (ad 70), .int 0, .ref (ad 71), .ref (ad 72), .ref (ad 73), .ref (ad 74), .ref (ad 75), .int 0, .int 0, .int 0, .int 0, .int 0, .ref (ad 76), .ref (ad 77), .ref (ad 78)])))).set 25 (ad 25, .inl ((ca 25), 720, .inl (upd (upd (upd (upd (upd (upd (upd (upd (upd (upd (upd (upd (fun _ => 0) 0 (vp_nar .byte (w0 (Int32.toNatClampNeg 0)))) 1 (vp_nar .byte (w0 (Int32.toNatClampNeg 1)))) 2 (vp_nar .byte (w0 (Int32.toNatClampNeg 2)))) 3 (vp_nar .byte (w0 (Int32.toNatClampNeg 3)))) 4 (vp_nar .byte (w0 (Int32.toNatClampNeg 4)))) 5 (vp_nar .byte (w0 (Int32.toNatClampNeg 5)))) 6 (vp_nar .byte (w0 (Int32.toNatClampNeg 6)))) 7 (vp_nar .byte (w0 (Int32.toNatClampNeg 7)))) 8 (vp_nar .byte (w0 (Int32.toNatClampNeg 8)))) 9 (vp_nar .byte (w0 (Int32.toNatClampNeg 9)))) 10 (vp_nar .byte (w0 (Int32.toNatClampNeg 10)))) 11 (vp_nar .byte (w0 (Int32.toNatClampNeg 11)))))))).set 26 (ad 26, .inl ((ca 26), 60, .inl (upd (fun _ => 0) 0 p2))))).set 27 (ad 27, .inl ((ca 27), 60, .inl (upd (fun _ => 0) 0 0))))).set 31 (ad 31, .inl ((ca 31), 60, .inl (upd (fun _ => 0) 0 (-1)))))).set 32 (ad 32, .inl ((ca 32), 60, .inl (upd (fun _ => 0) 0 (-1)))))).set 35 (ad 35, .inl ((ca 35), 60, .inl (upd (fun _ => 0) 0 (-1)))))).set 36 (ad 36, .inl ((ca 36), 60, .inl (upd (fun _ => 0) 0 (-1))))))) (va_A (((mW ad ca).set 66 (ad 66, .inl ((ca 66), 12, .inl w0)))) sz)) 0 0 (va_A (((mW ad ca).set 66 (ad 66, .inl ((ca 66), 12, .inl w0)))) sz) := by
  refine Met.ofW (cc := cX13_newEntry) (maxL := 4) (ret := (some .int)) (by decide) rfl ?_
  intro p e s m args below meth c s₁ B hml hv
  obtain ⟨rfl, hsz, hP, hK, hD0⟩ := hv
  have hx := B.exec
  have hb := B.bytes
  have hr := B.returns
  have hts := atoms_spec (ws := (jk yX13_newEntry cX13_newEntry 4 (some .int))) B.pre
  have hown : s.vm.findClass RX13 = some m.cls := findClass_of_methodNamed B.named
  have hlocks := B.notSynchronized
  subst hsz
  have hD := hD0.self (sz := s.heap.size)
  generalize hAe : (va_A (((mW ad ca).set 66 (ad 66, .inl ((ca 66), 12, .inl w0)))) s.heap.size) = A at hD ⊢
  have hA : ∀ q : Nat, s.heap.size ≤ q → A q := fun q h => by rw [← hAe]; exact Or.inr h
  have hS : va_S A s.heap s.heap [] := va_S.rf
  have hP : va_P (dC, dI) vwCl (((mW ad ca).set 66 (ad 66, .inl ((ca 66), 12, .inl w0)))) s.heap := hP
  have hl := lv_entry ([.ref (ad 0), .int 0, .int p2]) (n := 4) (Nat.le_of_ble_eq_true rfl)
  rw [lg_entry_eq]
  generalize (lg_sl ([.ref (ad 0), .int 0, .int p2]) ++ List.replicate (4 - (lg_sl ([.ref (ad 0), .int 0, .int p2])).length) Slot.unset).toArray = ls at hl ⊢
  have hl : lv_has ls 4 [(0, .ref (ad 0)), (1, .int 0), (2, .int p2)] := hl
  refine lv_aload_n hx hb dX13_newEntry_0 rfl (lv_at hl 0 rfl) ?_
  refine va_get (D := (dC, dI)) (ci := 13) (v := .int 0) (C := RX13) (T := TX13) (N := 104) hx hb hts (jh hin_RX13) hown hK hP 0 rfl rfl 37 (by decide) (hts (.fieldLink RX13 418 "BookOfAllModel" "entries" "I") (jm m_535)) (fun _ h9 => h9) rfl dX13_newEntry_1 ?_
  refine lv_bipush (v := 60) hx hb dX13_newEntry_4 (by decide) ?_
  refine lv_icmp_ne (tgt := 11) hx hb dX13_newEntry_6 (by decide) (fun _ => ?_) (fun z => absurd z (by decide))
  refine lv_iconst (v := 0) hx hb dX13_newEntry_11 (by decide) ?_
  refine lv_istore_n (lv' := [(3, .int 0), (0, .ref (ad 0)), (1, .int 0), (2, .int p2)]) hx hb dX13_newEntry_12 rfl hl (by decide) rfl (fun ls hl => ?_)
  refine lv_iload_n hx hb dX13_newEntry_13 rfl (lv_at hl 0 rfl) ?_
  refine lv_bipush (v := 12) hx hb dX13_newEntry_14 (by decide) ?_
  refine lv_icmp_ge (tgt := 45) hx hb dX13_newEntry_16 (by decide) (fun z => absurd z (by decide)) (fun _ => ?_)
  refine lv_aload_n hx hb dX13_newEntry_19 rfl (lv_at hl 1 rfl) ?_
  refine va_get (D := (dC, dI)) (ci := 13) (v := .ref (ad 25)) (C := RX13) (T := TX13) (N := 104) hx hb hts (jh hin_RX13) hown hK hP 0 rfl rfl 38 (by decide) (hts (.fieldLink RX13 84 "BookOfAllModel" "heading" "[B") (jm m_27)) (fun _ h9 => h9) rfl dX13_newEntry_20 ?_
  refine lv_bipush (v := 12) hx hb dX13_newEntry_23 (by decide) ?_
  refine lv_aload_n hx hb dX13_newEntry_25 rfl (lv_at hl 1 rfl) ?_
  refine va_get (D := (dC, dI)) (ci := 13) (v := .int 0) (C := RX13) (T := TX13) (N := 104) hx hb hts (jh hin_RX13) hown hK hP 0 rfl rfl 37 (by decide) (hts (.fieldLink RX13 418 "BookOfAllModel" "entries" "I") (jm m_535)) (fun _ h9 => h9) rfl dX13_newEntry_26 ?_
  refine lv_imul hx hb dX13_newEntry_29 ?_
  refine jt_i 0 (by decide) ?_
  refine lv_iload_n hx hb dX13_newEntry_30 rfl (lv_at hl 0 rfl) ?_
  refine lv_iadd hx hb dX13_newEntry_31 ?_
  refine jt_i 0 (by decide) ?_
  refine lv_aload_n hx hb dX13_newEntry_32 rfl (lv_at hl 1 rfl) ?_
  refine va_get (D := (dC, dI)) (ci := 13) (v := .ref (ad 66)) (C := RX13) (T := TX13) (N := 104) hx hb hts (jh hin_RX13) hown hK hP 0 rfl rfl 84 (by decide) (hts (.fieldLink RX13 207 "BookOfAllModel" "told12" "[B") (jm m_68)) (fun _ h9 => h9) rfl dX13_newEntry_33 ?_
  refine lv_iload_n hx hb dX13_newEntry_36 rfl (lv_at hl 0 rfl) ?_
  refine va_bald hx hb hK hP 66 65 rfl rfl (vp_in_nI (n := 0) (by decide) (by decide)) dX13_newEntry_37 ?_
  refine jt_i (w0 (Int32.toNatClampNeg 0)) rfl ?_
  refine va_bast hx hb hK hP hD hS 25 24 rfl rfl (vp_in_nI (n := 0) (by decide) (by decide)) dX13_newEntry_38 (fun H locs hP hD hS => ?_)
  refine lv_iinc (v := 1) (lv' := [(3, .int 1), (0, .ref (ad 0)), (1, .int 0), (2, .int p2)]) hx hb dX13_newEntry_39 hl (k := 0) rfl (by decide) (by decide) rfl (fun ls hl => ?_)
  refine lv_goto (tgt := 13) hx hb dX13_newEntry_42 (by decide) ?_
  refine lv_iload_n hx hb dX13_newEntry_13 rfl (lv_at hl 0 rfl) ?_
  refine lv_bipush (v := 12) hx hb dX13_newEntry_14 (by decide) ?_
  refine lv_icmp_ge (tgt := 45) hx hb dX13_newEntry_16 (by decide) (fun z => absurd z (by decide)) (fun _ => ?_)
  refine lv_aload_n hx hb dX13_newEntry_19 rfl (lv_at hl 1 rfl) ?_
  refine va_get (D := (dC, dI)) (ci := 13) (v := .ref (ad 25)) (C := RX13) (T := TX13) (N := 104) hx hb hts (jh hin_RX13) hown hK hP 0 rfl rfl 38 (by decide) (hts (.fieldLink RX13 84 "BookOfAllModel" "heading" "[B") (jm m_27)) (fun _ h9 => h9) rfl dX13_newEntry_20 ?_
  refine lv_bipush (v := 12) hx hb dX13_newEntry_23 (by decide) ?_
  refine lv_aload_n hx hb dX13_newEntry_25 rfl (lv_at hl 1 rfl) ?_
  refine va_get (D := (dC, dI)) (ci := 13) (v := .int 0) (C := RX13) (T := TX13) (N := 104) hx hb hts (jh hin_RX13) hown hK hP 0 rfl rfl 37 (by decide) (hts (.fieldLink RX13 418 "BookOfAllModel" "entries" "I") (jm m_535)) (fun _ h9 => h9) rfl dX13_newEntry_26 ?_
  refine lv_imul hx hb dX13_newEntry_29 ?_
  refine jt_i 0 (by decide) ?_
  refine lv_iload_n hx hb dX13_newEntry_30 rfl (lv_at hl 0 rfl) ?_
  refine lv_iadd hx hb dX13_newEntry_31 ?_
  refine jt_i 1 (by decide) ?_
  refine lv_aload_n hx hb dX13_newEntry_32 rfl (lv_at hl 1 rfl) ?_
  refine va_get (D := (dC, dI)) (ci := 13) (v := .ref (ad 66)) (C := RX13) (T := TX13) (N := 104) hx hb hts (jh hin_RX13) hown hK hP 0 rfl rfl 84 (by decide) (hts (.fieldLink RX13 207 "BookOfAllModel" "told12" "[B") (jm m_68)) (fun _ h9 => h9) rfl dX13_newEntry_33 ?_
  refine lv_iload_n hx hb dX13_newEntry_36 rfl (lv_at hl 0 rfl) ?_
  refine va_bald hx hb hK hP 66 65 rfl rfl (vp_in_nI (n := 1) (by decide) (by decide)) dX13_newEntry_37 ?_
  refine jt_i (w0 (Int32.toNatClampNeg 1)) rfl ?_
  refine va_bast hx hb hK hP hD hS 25 24 rfl rfl (vp_in_nI (n := 1) (by decide) (by decide)) dX13_newEntry_38 (fun H locs hP hD hS => ?_)
  refine lv_iinc (v := 2) (lv' := [(3, .int 2), (0, .ref (ad 0)), (1, .int 0), (2, .int p2)]) hx hb dX13_newEntry_39 hl (k := 0) rfl (by decide) (by decide) rfl (fun ls hl => ?_)
  refine lv_goto (tgt := 13) hx hb dX13_newEntry_42 (by decide) ?_
  refine lv_iload_n hx hb dX13_newEntry_13 rfl (lv_at hl 0 rfl) ?_
  refine lv_bipush (v := 12) hx hb dX13_newEntry_14 (by decide) ?_
  refine lv_icmp_ge (tgt := 45) hx hb dX13_newEntry_16 (by decide) (fun z => absurd z (by decide)) (fun _ => ?_)
  refine lv_aload_n hx hb dX13_newEntry_19 rfl (lv_at hl 1 rfl) ?_
  refine va_get (D := (dC, dI)) (ci := 13) (v := .ref (ad 25)) (C := RX13) (T := TX13) (N := 104) hx hb hts (jh hin_RX13) hown hK hP 0 rfl rfl 38 (by decide) (hts (.fieldLink RX13 84 "BookOfAllModel" "heading" "[B") (jm m_27)) (fun _ h9 => h9) rfl dX13_newEntry_20 ?_
  refine lv_bipush (v := 12) hx hb dX13_newEntry_23 (by decide) ?_
  refine lv_aload_n hx hb dX13_newEntry_25 rfl (lv_at hl 1 rfl) ?_
  refine va_get (D := (dC, dI)) (ci := 13) (v := .int 0) (C := RX13) (T := TX13) (N := 104) hx hb hts (jh hin_RX13) hown hK hP 0 rfl rfl 37 (by decide) (hts (.fieldLink RX13 418 "BookOfAllModel" "entries" "I") (jm m_535)) (fun _ h9 => h9) rfl dX13_newEntry_26 ?_
  refine lv_imul hx hb dX13_newEntry_29 ?_
  refine jt_i 0 (by decide) ?_
  refine lv_iload_n hx hb dX13_newEntry_30 rfl (lv_at hl 0 rfl) ?_
  refine lv_iadd hx hb dX13_newEntry_31 ?_
  refine jt_i 2 (by decide) ?_
  refine lv_aload_n hx hb dX13_newEntry_32 rfl (lv_at hl 1 rfl) ?_
  refine va_get (D := (dC, dI)) (ci := 13) (v := .ref (ad 66)) (C := RX13) (T := TX13) (N := 104) hx hb hts (jh hin_RX13) hown hK hP 0 rfl rfl 84 (by decide) (hts (.fieldLink RX13 207 "BookOfAllModel" "told12" "[B") (jm m_68)) (fun _ h9 => h9) rfl dX13_newEntry_33 ?_
  refine lv_iload_n hx hb dX13_newEntry_36 rfl (lv_at hl 0 rfl) ?_
  refine va_bald hx hb hK hP 66 65 rfl rfl (vp_in_nI (n := 2) (by decide) (by decide)) dX13_newEntry_37 ?_
  refine jt_i (w0 (Int32.toNatClampNeg 2)) rfl ?_
  refine va_bast hx hb hK hP hD hS 25 24 rfl rfl (vp_in_nI (n := 2) (by decide) (by decide)) dX13_newEntry_38 (fun H locs hP hD hS => ?_)
  refine lv_iinc (v := 3) (lv' := [(3, .int 3), (0, .ref (ad 0)), (1, .int 0), (2, .int p2)]) hx hb dX13_newEntry_39 hl (k := 0) rfl (by decide) (by decide) rfl (fun ls hl => ?_)
  refine lv_goto (tgt := 13) hx hb dX13_newEntry_42 (by decide) ?_
  refine lv_iload_n hx hb dX13_newEntry_13 rfl (lv_at hl 0 rfl) ?_
  refine lv_bipush (v := 12) hx hb dX13_newEntry_14 (by decide) ?_
  refine lv_icmp_ge (tgt := 45) hx hb dX13_newEntry_16 (by decide) (fun z => absurd z (by decide)) (fun _ => ?_)
  refine lv_aload_n hx hb dX13_newEntry_19 rfl (lv_at hl 1 rfl) ?_
  refine va_get (D := (dC, dI)) (ci := 13) (v := .ref (ad 25)) (C := RX13) (T := TX13) (N := 104) hx hb hts (jh hin_RX13) hown hK hP 0 rfl rfl 38 (by decide) (hts (.fieldLink RX13 84 "BookOfAllModel" "heading" "[B") (jm m_27)) (fun _ h9 => h9) rfl dX13_newEntry_20 ?_
  refine lv_bipush (v := 12) hx hb dX13_newEntry_23 (by decide) ?_
  refine lv_aload_n hx hb dX13_newEntry_25 rfl (lv_at hl 1 rfl) ?_
  refine va_get (D := (dC, dI)) (ci := 13) (v := .int 0) (C := RX13) (T := TX13) (N := 104) hx hb hts (jh hin_RX13) hown hK hP 0 rfl rfl 37 (by decide) (hts (.fieldLink RX13 418 "BookOfAllModel" "entries" "I") (jm m_535)) (fun _ h9 => h9) rfl dX13_newEntry_26 ?_
  refine lv_imul hx hb dX13_newEntry_29 ?_
  refine jt_i 0 (by decide) ?_
  refine lv_iload_n hx hb dX13_newEntry_30 rfl (lv_at hl 0 rfl) ?_
  refine lv_iadd hx hb dX13_newEntry_31 ?_
  refine jt_i 3 (by decide) ?_
  refine lv_aload_n hx hb dX13_newEntry_32 rfl (lv_at hl 1 rfl) ?_
  refine va_get (D := (dC, dI)) (ci := 13) (v := .ref (ad 66)) (C := RX13) (T := TX13) (N := 104) hx hb hts (jh hin_RX13) hown hK hP 0 rfl rfl 84 (by decide) (hts (.fieldLink RX13 207 "BookOfAllModel" "told12" "[B") (jm m_68)) (fun _ h9 => h9) rfl dX13_newEntry_33 ?_
  refine lv_iload_n hx hb dX13_newEntry_36 rfl (lv_at hl 0 rfl) ?_
  refine va_bald hx hb hK hP 66 65 rfl rfl (vp_in_nI (n := 3) (by decide) (by decide)) dX13_newEntry_37 ?_
  refine jt_i (w0 (Int32.toNatClampNeg 3)) rfl ?_
  refine va_bast hx hb hK hP hD hS 25 24 rfl rfl (vp_in_nI (n := 3) (by decide) (by decide)) dX13_newEntry_38 (fun H locs hP hD hS => ?_)
  refine lv_iinc (v := 4) (lv' := [(3, .int 4), (0, .ref (ad 0)), (1, .int 0), (2, .int p2)]) hx hb dX13_newEntry_39 hl (k := 0) rfl (by decide) (by decide) rfl (fun ls hl => ?_)
  refine lv_goto (tgt := 13) hx hb dX13_newEntry_42 (by decide) ?_
  refine lv_iload_n hx hb dX13_newEntry_13 rfl (lv_at hl 0 rfl) ?_
  refine lv_bipush (v := 12) hx hb dX13_newEntry_14 (by decide) ?_
  refine lv_icmp_ge (tgt := 45) hx hb dX13_newEntry_16 (by decide) (fun z => absurd z (by decide)) (fun _ => ?_)
  refine lv_aload_n hx hb dX13_newEntry_19 rfl (lv_at hl 1 rfl) ?_
  refine va_get (D := (dC, dI)) (ci := 13) (v := .ref (ad 25)) (C := RX13) (T := TX13) (N := 104) hx hb hts (jh hin_RX13) hown hK hP 0 rfl rfl 38 (by decide) (hts (.fieldLink RX13 84 "BookOfAllModel" "heading" "[B") (jm m_27)) (fun _ h9 => h9) rfl dX13_newEntry_20 ?_
  refine lv_bipush (v := 12) hx hb dX13_newEntry_23 (by decide) ?_
  refine lv_aload_n hx hb dX13_newEntry_25 rfl (lv_at hl 1 rfl) ?_
  refine va_get (D := (dC, dI)) (ci := 13) (v := .int 0) (C := RX13) (T := TX13) (N := 104) hx hb hts (jh hin_RX13) hown hK hP 0 rfl rfl 37 (by decide) (hts (.fieldLink RX13 418 "BookOfAllModel" "entries" "I") (jm m_535)) (fun _ h9 => h9) rfl dX13_newEntry_26 ?_
  refine lv_imul hx hb dX13_newEntry_29 ?_
  refine jt_i 0 (by decide) ?_
  refine lv_iload_n hx hb dX13_newEntry_30 rfl (lv_at hl 0 rfl) ?_
  refine lv_iadd hx hb dX13_newEntry_31 ?_
  refine jt_i 4 (by decide) ?_
  refine lv_aload_n hx hb dX13_newEntry_32 rfl (lv_at hl 1 rfl) ?_
  refine va_get (D := (dC, dI)) (ci := 13) (v := .ref (ad 66)) (C := RX13) (T := TX13) (N := 104) hx hb hts (jh hin_RX13) hown hK hP 0 rfl rfl 84 (by decide) (hts (.fieldLink RX13 207 "BookOfAllModel" "told12" "[B") (jm m_68)) (fun _ h9 => h9) rfl dX13_newEntry_33 ?_
  refine lv_iload_n hx hb dX13_newEntry_36 rfl (lv_at hl 0 rfl) ?_
  refine va_bald hx hb hK hP 66 65 rfl rfl (vp_in_nI (n := 4) (by decide) (by decide)) dX13_newEntry_37 ?_
  refine jt_i (w0 (Int32.toNatClampNeg 4)) rfl ?_
  refine va_bast hx hb hK hP hD hS 25 24 rfl rfl (vp_in_nI (n := 4) (by decide) (by decide)) dX13_newEntry_38 (fun H locs hP hD hS => ?_)
  refine lv_iinc (v := 5) (lv' := [(3, .int 5), (0, .ref (ad 0)), (1, .int 0), (2, .int p2)]) hx hb dX13_newEntry_39 hl (k := 0) rfl (by decide) (by decide) rfl (fun ls hl => ?_)
  refine lv_goto (tgt := 13) hx hb dX13_newEntry_42 (by decide) ?_
  refine lv_iload_n hx hb dX13_newEntry_13 rfl (lv_at hl 0 rfl) ?_
  refine lv_bipush (v := 12) hx hb dX13_newEntry_14 (by decide) ?_
  refine lv_icmp_ge (tgt := 45) hx hb dX13_newEntry_16 (by decide) (fun z => absurd z (by decide)) (fun _ => ?_)
  refine lv_aload_n hx hb dX13_newEntry_19 rfl (lv_at hl 1 rfl) ?_
  refine va_get (D := (dC, dI)) (ci := 13) (v := .ref (ad 25)) (C := RX13) (T := TX13) (N := 104) hx hb hts (jh hin_RX13) hown hK hP 0 rfl rfl 38 (by decide) (hts (.fieldLink RX13 84 "BookOfAllModel" "heading" "[B") (jm m_27)) (fun _ h9 => h9) rfl dX13_newEntry_20 ?_
  refine lv_bipush (v := 12) hx hb dX13_newEntry_23 (by decide) ?_
  refine lv_aload_n hx hb dX13_newEntry_25 rfl (lv_at hl 1 rfl) ?_
  refine va_get (D := (dC, dI)) (ci := 13) (v := .int 0) (C := RX13) (T := TX13) (N := 104) hx hb hts (jh hin_RX13) hown hK hP 0 rfl rfl 37 (by decide) (hts (.fieldLink RX13 418 "BookOfAllModel" "entries" "I") (jm m_535)) (fun _ h9 => h9) rfl dX13_newEntry_26 ?_
  refine lv_imul hx hb dX13_newEntry_29 ?_
  refine jt_i 0 (by decide) ?_
  refine lv_iload_n hx hb dX13_newEntry_30 rfl (lv_at hl 0 rfl) ?_
  refine lv_iadd hx hb dX13_newEntry_31 ?_
  refine jt_i 5 (by decide) ?_
  refine lv_aload_n hx hb dX13_newEntry_32 rfl (lv_at hl 1 rfl) ?_
  refine va_get (D := (dC, dI)) (ci := 13) (v := .ref (ad 66)) (C := RX13) (T := TX13) (N := 104) hx hb hts (jh hin_RX13) hown hK hP 0 rfl rfl 84 (by decide) (hts (.fieldLink RX13 207 "BookOfAllModel" "told12" "[B") (jm m_68)) (fun _ h9 => h9) rfl dX13_newEntry_33 ?_
  refine lv_iload_n hx hb dX13_newEntry_36 rfl (lv_at hl 0 rfl) ?_
  refine va_bald hx hb hK hP 66 65 rfl rfl (vp_in_nI (n := 5) (by decide) (by decide)) dX13_newEntry_37 ?_
  refine jt_i (w0 (Int32.toNatClampNeg 5)) rfl ?_
  refine va_bast hx hb hK hP hD hS 25 24 rfl rfl (vp_in_nI (n := 5) (by decide) (by decide)) dX13_newEntry_38 (fun H locs hP hD hS => ?_)
  refine lv_iinc (v := 6) (lv' := [(3, .int 6), (0, .ref (ad 0)), (1, .int 0), (2, .int p2)]) hx hb dX13_newEntry_39 hl (k := 0) rfl (by decide) (by decide) rfl (fun ls hl => ?_)
  refine lv_goto (tgt := 13) hx hb dX13_newEntry_42 (by decide) ?_
  refine lv_iload_n hx hb dX13_newEntry_13 rfl (lv_at hl 0 rfl) ?_
  refine lv_bipush (v := 12) hx hb dX13_newEntry_14 (by decide) ?_
  refine lv_icmp_ge (tgt := 45) hx hb dX13_newEntry_16 (by decide) (fun z => absurd z (by decide)) (fun _ => ?_)
  refine lv_aload_n hx hb dX13_newEntry_19 rfl (lv_at hl 1 rfl) ?_
  refine va_get (D := (dC, dI)) (ci := 13) (v := .ref (ad 25)) (C := RX13) (T := TX13) (N := 104) hx hb hts (jh hin_RX13) hown hK hP 0 rfl rfl 38 (by decide) (hts (.fieldLink RX13 84 "BookOfAllModel" "heading" "[B") (jm m_27)) (fun _ h9 => h9) rfl dX13_newEntry_20 ?_
  refine lv_bipush (v := 12) hx hb dX13_newEntry_23 (by decide) ?_
  refine lv_aload_n hx hb dX13_newEntry_25 rfl (lv_at hl 1 rfl) ?_
  refine va_get (D := (dC, dI)) (ci := 13) (v := .int 0) (C := RX13) (T := TX13) (N := 104) hx hb hts (jh hin_RX13) hown hK hP 0 rfl rfl 37 (by decide) (hts (.fieldLink RX13 418 "BookOfAllModel" "entries" "I") (jm m_535)) (fun _ h9 => h9) rfl dX13_newEntry_26 ?_
  refine lv_imul hx hb dX13_newEntry_29 ?_
  refine jt_i 0 (by decide) ?_
  refine lv_iload_n hx hb dX13_newEntry_30 rfl (lv_at hl 0 rfl) ?_
  refine lv_iadd hx hb dX13_newEntry_31 ?_
  refine jt_i 6 (by decide) ?_
  refine lv_aload_n hx hb dX13_newEntry_32 rfl (lv_at hl 1 rfl) ?_
  refine va_get (D := (dC, dI)) (ci := 13) (v := .ref (ad 66)) (C := RX13) (T := TX13) (N := 104) hx hb hts (jh hin_RX13) hown hK hP 0 rfl rfl 84 (by decide) (hts (.fieldLink RX13 207 "BookOfAllModel" "told12" "[B") (jm m_68)) (fun _ h9 => h9) rfl dX13_newEntry_33 ?_
  refine lv_iload_n hx hb dX13_newEntry_36 rfl (lv_at hl 0 rfl) ?_
  refine va_bald hx hb hK hP 66 65 rfl rfl (vp_in_nI (n := 6) (by decide) (by decide)) dX13_newEntry_37 ?_
  refine jt_i (w0 (Int32.toNatClampNeg 6)) rfl ?_
  refine va_bast hx hb hK hP hD hS 25 24 rfl rfl (vp_in_nI (n := 6) (by decide) (by decide)) dX13_newEntry_38 (fun H locs hP hD hS => ?_)
  refine lv_iinc (v := 7) (lv' := [(3, .int 7), (0, .ref (ad 0)), (1, .int 0), (2, .int p2)]) hx hb dX13_newEntry_39 hl (k := 0) rfl (by decide) (by decide) rfl (fun ls hl => ?_)
  refine lv_goto (tgt := 13) hx hb dX13_newEntry_42 (by decide) ?_
  refine lv_iload_n hx hb dX13_newEntry_13 rfl (lv_at hl 0 rfl) ?_
  refine lv_bipush (v := 12) hx hb dX13_newEntry_14 (by decide) ?_
  refine lv_icmp_ge (tgt := 45) hx hb dX13_newEntry_16 (by decide) (fun z => absurd z (by decide)) (fun _ => ?_)
  refine lv_aload_n hx hb dX13_newEntry_19 rfl (lv_at hl 1 rfl) ?_
  refine va_get (D := (dC, dI)) (ci := 13) (v := .ref (ad 25)) (C := RX13) (T := TX13) (N := 104) hx hb hts (jh hin_RX13) hown hK hP 0 rfl rfl 38 (by decide) (hts (.fieldLink RX13 84 "BookOfAllModel" "heading" "[B") (jm m_27)) (fun _ h9 => h9) rfl dX13_newEntry_20 ?_
  refine lv_bipush (v := 12) hx hb dX13_newEntry_23 (by decide) ?_
  refine lv_aload_n hx hb dX13_newEntry_25 rfl (lv_at hl 1 rfl) ?_
  refine va_get (D := (dC, dI)) (ci := 13) (v := .int 0) (C := RX13) (T := TX13) (N := 104) hx hb hts (jh hin_RX13) hown hK hP 0 rfl rfl 37 (by decide) (hts (.fieldLink RX13 418 "BookOfAllModel" "entries" "I") (jm m_535)) (fun _ h9 => h9) rfl dX13_newEntry_26 ?_
  refine lv_imul hx hb dX13_newEntry_29 ?_
  refine jt_i 0 (by decide) ?_
  refine lv_iload_n hx hb dX13_newEntry_30 rfl (lv_at hl 0 rfl) ?_
  refine lv_iadd hx hb dX13_newEntry_31 ?_
  refine jt_i 7 (by decide) ?_
  refine lv_aload_n hx hb dX13_newEntry_32 rfl (lv_at hl 1 rfl) ?_
  refine va_get (D := (dC, dI)) (ci := 13) (v := .ref (ad 66)) (C := RX13) (T := TX13) (N := 104) hx hb hts (jh hin_RX13) hown hK hP 0 rfl rfl 84 (by decide) (hts (.fieldLink RX13 207 "BookOfAllModel" "told12" "[B") (jm m_68)) (fun _ h9 => h9) rfl dX13_newEntry_33 ?_
  refine lv_iload_n hx hb dX13_newEntry_36 rfl (lv_at hl 0 rfl) ?_
  refine va_bald hx hb hK hP 66 65 rfl rfl (vp_in_nI (n := 7) (by decide) (by decide)) dX13_newEntry_37 ?_
  refine jt_i (w0 (Int32.toNatClampNeg 7)) rfl ?_
  refine va_bast hx hb hK hP hD hS 25 24 rfl rfl (vp_in_nI (n := 7) (by decide) (by decide)) dX13_newEntry_38 (fun H locs hP hD hS => ?_)
  refine lv_iinc (v := 8) (lv' := [(3, .int 8), (0, .ref (ad 0)), (1, .int 0), (2, .int p2)]) hx hb dX13_newEntry_39 hl (k := 0) rfl (by decide) (by decide) rfl (fun ls hl => ?_)
  refine lv_goto (tgt := 13) hx hb dX13_newEntry_42 (by decide) ?_
  refine lv_iload_n hx hb dX13_newEntry_13 rfl (lv_at hl 0 rfl) ?_
  refine lv_bipush (v := 12) hx hb dX13_newEntry_14 (by decide) ?_
  refine lv_icmp_ge (tgt := 45) hx hb dX13_newEntry_16 (by decide) (fun z => absurd z (by decide)) (fun _ => ?_)
  refine lv_aload_n hx hb dX13_newEntry_19 rfl (lv_at hl 1 rfl) ?_
  refine va_get (D := (dC, dI)) (ci := 13) (v := .ref (ad 25)) (C := RX13) (T := TX13) (N := 104) hx hb hts (jh hin_RX13) hown hK hP 0 rfl rfl 38 (by decide) (hts (.fieldLink RX13 84 "BookOfAllModel" "heading" "[B") (jm m_27)) (fun _ h9 => h9) rfl dX13_newEntry_20 ?_
  refine lv_bipush (v := 12) hx hb dX13_newEntry_23 (by decide) ?_
  refine lv_aload_n hx hb dX13_newEntry_25 rfl (lv_at hl 1 rfl) ?_
  refine va_get (D := (dC, dI)) (ci := 13) (v := .int 0) (C := RX13) (T := TX13) (N := 104) hx hb hts (jh hin_RX13) hown hK hP 0 rfl rfl 37 (by decide) (hts (.fieldLink RX13 418 "BookOfAllModel" "entries" "I") (jm m_535)) (fun _ h9 => h9) rfl dX13_newEntry_26 ?_
  refine lv_imul hx hb dX13_newEntry_29 ?_
  refine jt_i 0 (by decide) ?_
  refine lv_iload_n hx hb dX13_newEntry_30 rfl (lv_at hl 0 rfl) ?_
  refine lv_iadd hx hb dX13_newEntry_31 ?_
  refine jt_i 8 (by decide) ?_
  refine lv_aload_n hx hb dX13_newEntry_32 rfl (lv_at hl 1 rfl) ?_
  refine va_get (D := (dC, dI)) (ci := 13) (v := .ref (ad 66)) (C := RX13) (T := TX13) (N := 104) hx hb hts (jh hin_RX13) hown hK hP 0 rfl rfl 84 (by decide) (hts (.fieldLink RX13 207 "BookOfAllModel" "told12" "[B") (jm m_68)) (fun _ h9 => h9) rfl dX13_newEntry_33 ?_
  refine lv_iload_n hx hb dX13_newEntry_36 rfl (lv_at hl 0 rfl) ?_
  refine va_bald hx hb hK hP 66 65 rfl rfl (vp_in_nI (n := 8) (by decide) (by decide)) dX13_newEntry_37 ?_
  refine jt_i (w0 (Int32.toNatClampNeg 8)) rfl ?_
  refine va_bast hx hb hK hP hD hS 25 24 rfl rfl (vp_in_nI (n := 8) (by decide) (by decide)) dX13_newEntry_38 (fun H locs hP hD hS => ?_)
  refine lv_iinc (v := 9) (lv' := [(3, .int 9), (0, .ref (ad 0)), (1, .int 0), (2, .int p2)]) hx hb dX13_newEntry_39 hl (k := 0) rfl (by decide) (by decide) rfl (fun ls hl => ?_)
  refine lv_goto (tgt := 13) hx hb dX13_newEntry_42 (by decide) ?_
  refine lv_iload_n hx hb dX13_newEntry_13 rfl (lv_at hl 0 rfl) ?_
  refine lv_bipush (v := 12) hx hb dX13_newEntry_14 (by decide) ?_
  refine lv_icmp_ge (tgt := 45) hx hb dX13_newEntry_16 (by decide) (fun z => absurd z (by decide)) (fun _ => ?_)
  refine lv_aload_n hx hb dX13_newEntry_19 rfl (lv_at hl 1 rfl) ?_
  refine va_get (D := (dC, dI)) (ci := 13) (v := .ref (ad 25)) (C := RX13) (T := TX13) (N := 104) hx hb hts (jh hin_RX13) hown hK hP 0 rfl rfl 38 (by decide) (hts (.fieldLink RX13 84 "BookOfAllModel" "heading" "[B") (jm m_27)) (fun _ h9 => h9) rfl dX13_newEntry_20 ?_
  refine lv_bipush (v := 12) hx hb dX13_newEntry_23 (by decide) ?_
  refine lv_aload_n hx hb dX13_newEntry_25 rfl (lv_at hl 1 rfl) ?_
  refine va_get (D := (dC, dI)) (ci := 13) (v := .int 0) (C := RX13) (T := TX13) (N := 104) hx hb hts (jh hin_RX13) hown hK hP 0 rfl rfl 37 (by decide) (hts (.fieldLink RX13 418 "BookOfAllModel" "entries" "I") (jm m_535)) (fun _ h9 => h9) rfl dX13_newEntry_26 ?_
  refine lv_imul hx hb dX13_newEntry_29 ?_
  refine jt_i 0 (by decide) ?_
  refine lv_iload_n hx hb dX13_newEntry_30 rfl (lv_at hl 0 rfl) ?_
  refine lv_iadd hx hb dX13_newEntry_31 ?_
  refine jt_i 9 (by decide) ?_
  refine lv_aload_n hx hb dX13_newEntry_32 rfl (lv_at hl 1 rfl) ?_
  refine va_get (D := (dC, dI)) (ci := 13) (v := .ref (ad 66)) (C := RX13) (T := TX13) (N := 104) hx hb hts (jh hin_RX13) hown hK hP 0 rfl rfl 84 (by decide) (hts (.fieldLink RX13 207 "BookOfAllModel" "told12" "[B") (jm m_68)) (fun _ h9 => h9) rfl dX13_newEntry_33 ?_
  refine lv_iload_n hx hb dX13_newEntry_36 rfl (lv_at hl 0 rfl) ?_
  refine va_bald hx hb hK hP 66 65 rfl rfl (vp_in_nI (n := 9) (by decide) (by decide)) dX13_newEntry_37 ?_
  refine jt_i (w0 (Int32.toNatClampNeg 9)) rfl ?_
  refine va_bast hx hb hK hP hD hS 25 24 rfl rfl (vp_in_nI (n := 9) (by decide) (by decide)) dX13_newEntry_38 (fun H locs hP hD hS => ?_)
  refine lv_iinc (v := 10) (lv' := [(3, .int 10), (0, .ref (ad 0)), (1, .int 0), (2, .int p2)]) hx hb dX13_newEntry_39 hl (k := 0) rfl (by decide) (by decide) rfl (fun ls hl => ?_)
  refine lv_goto (tgt := 13) hx hb dX13_newEntry_42 (by decide) ?_
  refine lv_iload_n hx hb dX13_newEntry_13 rfl (lv_at hl 0 rfl) ?_
  refine lv_bipush (v := 12) hx hb dX13_newEntry_14 (by decide) ?_
  refine lv_icmp_ge (tgt := 45) hx hb dX13_newEntry_16 (by decide) (fun z => absurd z (by decide)) (fun _ => ?_)
  refine lv_aload_n hx hb dX13_newEntry_19 rfl (lv_at hl 1 rfl) ?_
  refine va_get (D := (dC, dI)) (ci := 13) (v := .ref (ad 25)) (C := RX13) (T := TX13) (N := 104) hx hb hts (jh hin_RX13) hown hK hP 0 rfl rfl 38 (by decide) (hts (.fieldLink RX13 84 "BookOfAllModel" "heading" "[B") (jm m_27)) (fun _ h9 => h9) rfl dX13_newEntry_20 ?_
  refine lv_bipush (v := 12) hx hb dX13_newEntry_23 (by decide) ?_
  refine lv_aload_n hx hb dX13_newEntry_25 rfl (lv_at hl 1 rfl) ?_
  refine va_get (D := (dC, dI)) (ci := 13) (v := .int 0) (C := RX13) (T := TX13) (N := 104) hx hb hts (jh hin_RX13) hown hK hP 0 rfl rfl 37 (by decide) (hts (.fieldLink RX13 418 "BookOfAllModel" "entries" "I") (jm m_535)) (fun _ h9 => h9) rfl dX13_newEntry_26 ?_
  refine lv_imul hx hb dX13_newEntry_29 ?_
  refine jt_i 0 (by decide) ?_
  refine lv_iload_n hx hb dX13_newEntry_30 rfl (lv_at hl 0 rfl) ?_
  refine lv_iadd hx hb dX13_newEntry_31 ?_
  refine jt_i 10 (by decide) ?_
  refine lv_aload_n hx hb dX13_newEntry_32 rfl (lv_at hl 1 rfl) ?_
  refine va_get (D := (dC, dI)) (ci := 13) (v := .ref (ad 66)) (C := RX13) (T := TX13) (N := 104) hx hb hts (jh hin_RX13) hown hK hP 0 rfl rfl 84 (by decide) (hts (.fieldLink RX13 207 "BookOfAllModel" "told12" "[B") (jm m_68)) (fun _ h9 => h9) rfl dX13_newEntry_33 ?_
  refine lv_iload_n hx hb dX13_newEntry_36 rfl (lv_at hl 0 rfl) ?_
  refine va_bald hx hb hK hP 66 65 rfl rfl (vp_in_nI (n := 10) (by decide) (by decide)) dX13_newEntry_37 ?_
  refine jt_i (w0 (Int32.toNatClampNeg 10)) rfl ?_
  refine va_bast hx hb hK hP hD hS 25 24 rfl rfl (vp_in_nI (n := 10) (by decide) (by decide)) dX13_newEntry_38 (fun H locs hP hD hS => ?_)
  refine lv_iinc (v := 11) (lv' := [(3, .int 11), (0, .ref (ad 0)), (1, .int 0), (2, .int p2)]) hx hb dX13_newEntry_39 hl (k := 0) rfl (by decide) (by decide) rfl (fun ls hl => ?_)
  refine lv_goto (tgt := 13) hx hb dX13_newEntry_42 (by decide) ?_
  refine lv_iload_n hx hb dX13_newEntry_13 rfl (lv_at hl 0 rfl) ?_
  refine lv_bipush (v := 12) hx hb dX13_newEntry_14 (by decide) ?_
  refine lv_icmp_ge (tgt := 45) hx hb dX13_newEntry_16 (by decide) (fun z => absurd z (by decide)) (fun _ => ?_)
  refine lv_aload_n hx hb dX13_newEntry_19 rfl (lv_at hl 1 rfl) ?_
  refine va_get (D := (dC, dI)) (ci := 13) (v := .ref (ad 25)) (C := RX13) (T := TX13) (N := 104) hx hb hts (jh hin_RX13) hown hK hP 0 rfl rfl 38 (by decide) (hts (.fieldLink RX13 84 "BookOfAllModel" "heading" "[B") (jm m_27)) (fun _ h9 => h9) rfl dX13_newEntry_20 ?_
  refine lv_bipush (v := 12) hx hb dX13_newEntry_23 (by decide) ?_
  refine lv_aload_n hx hb dX13_newEntry_25 rfl (lv_at hl 1 rfl) ?_
  refine va_get (D := (dC, dI)) (ci := 13) (v := .int 0) (C := RX13) (T := TX13) (N := 104) hx hb hts (jh hin_RX13) hown hK hP 0 rfl rfl 37 (by decide) (hts (.fieldLink RX13 418 "BookOfAllModel" "entries" "I") (jm m_535)) (fun _ h9 => h9) rfl dX13_newEntry_26 ?_
  refine lv_imul hx hb dX13_newEntry_29 ?_
  refine jt_i 0 (by decide) ?_
  refine lv_iload_n hx hb dX13_newEntry_30 rfl (lv_at hl 0 rfl) ?_
  refine lv_iadd hx hb dX13_newEntry_31 ?_
  refine jt_i 11 (by decide) ?_
  refine lv_aload_n hx hb dX13_newEntry_32 rfl (lv_at hl 1 rfl) ?_
  refine va_get (D := (dC, dI)) (ci := 13) (v := .ref (ad 66)) (C := RX13) (T := TX13) (N := 104) hx hb hts (jh hin_RX13) hown hK hP 0 rfl rfl 84 (by decide) (hts (.fieldLink RX13 207 "BookOfAllModel" "told12" "[B") (jm m_68)) (fun _ h9 => h9) rfl dX13_newEntry_33 ?_
  refine lv_iload_n hx hb dX13_newEntry_36 rfl (lv_at hl 0 rfl) ?_
  refine va_bald hx hb hK hP 66 65 rfl rfl (vp_in_nI (n := 11) (by decide) (by decide)) dX13_newEntry_37 ?_
  refine jt_i (w0 (Int32.toNatClampNeg 11)) rfl ?_
  refine va_bast hx hb hK hP hD hS 25 24 rfl rfl (vp_in_nI (n := 11) (by decide) (by decide)) dX13_newEntry_38 (fun H locs hP hD hS => ?_)
  refine lv_iinc (v := 12) (lv' := [(3, .int 12), (0, .ref (ad 0)), (1, .int 0), (2, .int p2)]) hx hb dX13_newEntry_39 hl (k := 0) rfl (by decide) (by decide) rfl (fun ls hl => ?_)
  refine lv_goto (tgt := 13) hx hb dX13_newEntry_42 (by decide) ?_
  refine lv_iload_n hx hb dX13_newEntry_13 rfl (lv_at hl 0 rfl) ?_
  refine lv_bipush (v := 12) hx hb dX13_newEntry_14 (by decide) ?_
  refine lv_icmp_ge (tgt := 45) hx hb dX13_newEntry_16 (by decide) (fun _ => ?_) (fun z => absurd (by decide) z)
  refine lv_aload_n hx hb dX13_newEntry_45 rfl (lv_at hl 1 rfl) ?_
  refine va_get (D := (dC, dI)) (ci := 13) (v := .ref (ad 26)) (C := RX13) (T := TX13) (N := 104) hx hb hts (jh hin_RX13) hown hK hP 0 rfl rfl 39 (by decide) (hts (.fieldLink RX13 87 "BookOfAllModel" "headingLong" "[I") (jm m_28)) (fun _ h9 => h9) rfl dX13_newEntry_46 ?_
  refine lv_aload_n hx hb dX13_newEntry_49 rfl (lv_at hl 1 rfl) ?_
  refine va_get (D := (dC, dI)) (ci := 13) (v := .int 0) (C := RX13) (T := TX13) (N := 104) hx hb hts (jh hin_RX13) hown hK hP 0 rfl rfl 37 (by decide) (hts (.fieldLink RX13 418 "BookOfAllModel" "entries" "I") (jm m_535)) (fun _ h9 => h9) rfl dX13_newEntry_50 ?_
  refine lv_iload_n hx hb dX13_newEntry_53 rfl (lv_at hl 3 rfl) ?_
  refine va_iast hx hb hK hP hD hS 26 25 rfl rfl (vp_in_nI (n := 0) (by decide) (by decide)) dX13_newEntry_54 (fun H locs hP hD hS => ?_)
  refine lv_aload_n hx hb dX13_newEntry_55 rfl (lv_at hl 1 rfl) ?_
  refine va_get (D := (dC, dI)) (ci := 13) (v := .ref (ad 27)) (C := RX13) (T := TX13) (N := 104) hx hb hts (jh hin_RX13) hown hK hP 0 rfl rfl 40 (by decide) (hts (.fieldLink RX13 90 "BookOfAllModel" "kind" "[I") (jm m_29)) (fun _ h9 => h9) rfl dX13_newEntry_56 ?_
  refine lv_aload_n hx hb dX13_newEntry_59 rfl (lv_at hl 1 rfl) ?_
  refine va_get (D := (dC, dI)) (ci := 13) (v := .int 0) (C := RX13) (T := TX13) (N := 104) hx hb hts (jh hin_RX13) hown hK hP 0 rfl rfl 37 (by decide) (hts (.fieldLink RX13 418 "BookOfAllModel" "entries" "I") (jm m_535)) (fun _ h9 => h9) rfl dX13_newEntry_60 ?_
  refine lv_iload_n hx hb dX13_newEntry_63 rfl (lv_at hl 2 rfl) ?_
  refine va_iast hx hb hK hP hD hS 27 26 rfl rfl (vp_in_nI (n := 0) (by decide) (by decide)) dX13_newEntry_64 (fun H locs hP hD hS => ?_)
  refine lv_aload_n hx hb dX13_newEntry_65 rfl (lv_at hl 1 rfl) ?_
  refine va_get (D := (dC, dI)) (ci := 13) (v := .ref (ad 31)) (C := RX13) (T := TX13) (N := 104) hx hb hts (jh hin_RX13) hown hK hP 0 rfl rfl 44 (by decide) (hts (.fieldLink RX13 102 "BookOfAllModel" "leads" "[I") (jm m_33)) (fun _ h9 => h9) rfl dX13_newEntry_66 ?_
  refine lv_aload_n hx hb dX13_newEntry_69 rfl (lv_at hl 1 rfl) ?_
  refine va_get (D := (dC, dI)) (ci := 13) (v := .int 0) (C := RX13) (T := TX13) (N := 104) hx hb hts (jh hin_RX13) hown hK hP 0 rfl rfl 37 (by decide) (hts (.fieldLink RX13 418 "BookOfAllModel" "entries" "I") (jm m_535)) (fun _ h9 => h9) rfl dX13_newEntry_70 ?_
  refine lv_iconst (v := (-1)) hx hb dX13_newEntry_73 (by decide) ?_
  refine va_iast hx hb hK hP hD hS 31 30 rfl rfl (vp_in_nI (n := 0) (by decide) (by decide)) dX13_newEntry_74 (fun H locs hP hD hS => ?_)
  refine lv_aload_n hx hb dX13_newEntry_75 rfl (lv_at hl 1 rfl) ?_
  refine va_get (D := (dC, dI)) (ci := 13) (v := .ref (ad 32)) (C := RX13) (T := TX13) (N := 104) hx hb hts (jh hin_RX13) hown hK hP 0 rfl rfl 45 (by decide) (hts (.fieldLink RX13 105 "BookOfAllModel" "givenTo" "[I") (jm m_34)) (fun _ h9 => h9) rfl dX13_newEntry_76 ?_
  refine lv_aload_n hx hb dX13_newEntry_79 rfl (lv_at hl 1 rfl) ?_
  refine va_get (D := (dC, dI)) (ci := 13) (v := .int 0) (C := RX13) (T := TX13) (N := 104) hx hb hts (jh hin_RX13) hown hK hP 0 rfl rfl 37 (by decide) (hts (.fieldLink RX13 418 "BookOfAllModel" "entries" "I") (jm m_535)) (fun _ h9 => h9) rfl dX13_newEntry_80 ?_
  refine lv_iconst (v := (-1)) hx hb dX13_newEntry_83 (by decide) ?_
  refine va_iast hx hb hK hP hD hS 32 31 rfl rfl (vp_in_nI (n := 0) (by decide) (by decide)) dX13_newEntry_84 (fun H locs hP hD hS => ?_)
  refine lv_aload_n hx hb dX13_newEntry_85 rfl (lv_at hl 1 rfl) ?_
  refine va_get (D := (dC, dI)) (ci := 13) (v := .ref (ad 35)) (C := RX13) (T := TX13) (N := 104) hx hb hts (jh hin_RX13) hown hK hP 0 rfl rfl 48 (by decide) (hts (.fieldLink RX13 114 "BookOfAllModel" "setWith" "[I") (jm m_37)) (fun _ h9 => h9) rfl dX13_newEntry_86 ?_
  refine lv_aload_n hx hb dX13_newEntry_89 rfl (lv_at hl 1 rfl) ?_
  refine va_get (D := (dC, dI)) (ci := 13) (v := .int 0) (C := RX13) (T := TX13) (N := 104) hx hb hts (jh hin_RX13) hown hK hP 0 rfl rfl 37 (by decide) (hts (.fieldLink RX13 418 "BookOfAllModel" "entries" "I") (jm m_535)) (fun _ h9 => h9) rfl dX13_newEntry_90 ?_
  refine lv_iconst (v := (-1)) hx hb dX13_newEntry_93 (by decide) ?_
  refine va_iast hx hb hK hP hD hS 35 34 rfl rfl (vp_in_nI (n := 0) (by decide) (by decide)) dX13_newEntry_94 (fun H locs hP hD hS => ?_)
  refine lv_aload_n hx hb dX13_newEntry_95 rfl (lv_at hl 1 rfl) ?_
  refine va_get (D := (dC, dI)) (ci := 13) (v := .ref (ad 36)) (C := RX13) (T := TX13) (N := 104) hx hb hts (jh hin_RX13) hown hK hP 0 rfl rfl 49 (by decide) (hts (.fieldLink RX13 117 "BookOfAllModel" "pageOf" "[I") (jm m_38)) (fun _ h9 => h9) rfl dX13_newEntry_96 ?_
  refine lv_aload_n hx hb dX13_newEntry_99 rfl (lv_at hl 1 rfl) ?_
  refine va_get (D := (dC, dI)) (ci := 13) (v := .int 0) (C := RX13) (T := TX13) (N := 104) hx hb hts (jh hin_RX13) hown hK hP 0 rfl rfl 37 (by decide) (hts (.fieldLink RX13 418 "BookOfAllModel" "entries" "I") (jm m_535)) (fun _ h9 => h9) rfl dX13_newEntry_100 ?_
  refine lv_iconst (v := (-1)) hx hb dX13_newEntry_103 (by decide) ?_
  refine va_iast hx hb hK hP hD hS 36 35 rfl rfl (vp_in_nI (n := 0) (by decide) (by decide)) dX13_newEntry_104 (fun H locs hP hD hS => ?_)
  refine lv_aload_n hx hb dX13_newEntry_105 rfl (lv_at hl 1 rfl) ?_
  refine lv_dup hx hb dX13_newEntry_106 rfl ?_
  refine va_get (D := (dC, dI)) (ci := 13) (v := .int 0) (C := RX13) (T := TX13) (N := 104) hx hb hts (jh hin_RX13) hown hK hP 0 rfl rfl 37 (by decide) (hts (.fieldLink RX13 418 "BookOfAllModel" "entries" "I") (jm m_535)) (fun _ h9 => h9) rfl dX13_newEntry_107 ?_
  refine lv_iconst (v := 1) hx hb dX13_newEntry_110 (by decide) ?_
  refine lv_iadd hx hb dX13_newEntry_111 ?_
  refine jt_i 1 (by decide) ?_
  refine va_put (D := (dC, dI)) (ci := 13) (v := .int 1) (ty := .int) (C := RX13) (T := TX13) (N := 104) hx hb hts (jh hin_RX13) tyX13 tyX13_ok nmX13 hown hK hP hD hS 0 rfl rfl 37 (by decide) (hts (.fieldLink RX13 418 "BookOfAllModel" "entries" "I") (jm m_535)) (fun _ h9 => h9) rfl (by decide +kernel) rfl rfl (Nat.le_of_ble_eq_true rfl) dX13_newEntry_112 (fun H locs hP hD hS => ?_)
  refine lv_aload_n hx hb dX13_newEntry_115 rfl (lv_at hl 1 rfl) ?_
  refine va_get (D := (dC, dI)) (ci := 13) (v := .int 1) (C := RX13) (T := TX13) (N := 104) hx hb hts (jh hin_RX13) hown hK hP 0 rfl rfl 37 (by decide) (hts (.fieldLink RX13 418 "BookOfAllModel" "entries" "I") (jm m_535)) (fun _ h9 => h9) rfl dX13_newEntry_116 ?_
  refine lv_iconst (v := 1) hx hb dX13_newEntry_119 (by decide) ?_
  refine lv_isub hx hb dX13_newEntry_120 ?_
  refine jt_i 0 (by decide) ?_
  exact W.iret (v := 0) hx hb hr (fun t ht hW => ⟨⟨0, (), rfl, rfl, by rw [ht]; exact hP, va_K.moved hW.alike hK, hD⟩, hS.F ht⟩) hS.2.2 dX13_newEntry_121
