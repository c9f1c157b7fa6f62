set_option maxHeartbeats 2000000 in
set_option maxRecDepth 100000 in
theorem sX13_rule (l : Launch) (dC : Nat → ClassId) (dI : Nat → Nat → Nat) (sz : Nat) (ad : Nat → Nat) (ca : Nat → ClassId) (g : Nat → Int) (a : Nat → Int → Int) (p1 : Int) (p2 : Int) (p3 : Int) (hI : mI g a) (q1 : rg p1) (q2 : rg p2) (q3 : rg p3) (hrSh : rSh g a) : Met l yX13_rule (jk yX13_rule cX13_rule 5 (some .int)) ({ frames := 1, cells := 0, slots := 0, locals := 24 }) (va_Pc [.ref (ad 0), .int (iI p1), .int (iI p2), .int (iI p3)] (jw_P (dC, dI) (mG ad ca g a) (mT ca) sz)) (va_Qi (fun (r : Int32) (_ : Unit) => ∃ z : Int, r = iI z ∧ (rg z)) (fun _ _ => True) (va_A [] sz)) 0 0 (va_A [] sz) := by
  refine Met.ofW (cc := cX13_rule) (maxL := 5) (ret := (some .int)) (by decide) rfl ?_
  intro p e s m args below meth c s₁ B hml hv
  obtain ⟨rfl, hsz, hP, hK, hD0⟩ := hv
  have hx := B.exec
  have hb := B.bytes
  have hr := B.returns
  have hts := atoms_spec (ws := (jk yX13_rule cX13_rule 5 (some .int))) B.pre
  have hj : ∀ w ∈ jw, w.before ([.ref (ad 0), .int (iI p1), .int (iI p2), .int (iI p3)] : List Value).toArray s = true := fun w h => hts w (jm h)
  have hown : s.vm.findClass RX13 = some m.cls := findClass_of_methodNamed B.named
  subst hsz
  have hD := hD0
  generalize hAe : (va_A [] s.heap.size) = A
  have hA : ∀ q : Nat, s.heap.size ≤ q → A q := fun q h => by rw [← hAe]; exact Or.inr h
  have hS : va_S A s.heap s.heap [] := va_S.rf
  have hP : va_P (dC, dI) vwCl (mG ad ca g a) s.heap := hP
  have hl := lv_entry ([.ref (ad 0), .int (iI p1), .int (iI p2), .int (iI p3)]) (n := 5) (Nat.le_of_ble_eq_true rfl)
  rw [lg_entry_eq]
  generalize (lg_sl ([.ref (ad 0), .int (iI p1), .int (iI p2), .int (iI p3)]) ++ List.replicate (5 - (lg_sl ([.ref (ad 0), .int (iI p1), .int (iI p2), .int (iI p3)])).length) Slot.unset).toArray = ls at hl ⊢
  have hl : lv_has ls 5 [(0, .ref (ad 0)), (1, .int (iI p1)), (2, .int (iI p2)), (3, .int (iI p3))] := hl
  generalize hQ : MQ below (va_Qi (fun (r : Int32) (_ : Unit) => ∃ z : Int, r = iI z ∧ (rg z)) (fun _ _ => True) A) ([.ref (ad 0), .int (iI p1), .int (iI p2), .int (iI p3)] : List Value).toArray s 0 0 A = Q
  suffices ST : ∀ (H : Heap) (locs : List Loc), va_P (dC, dI) vwCl (mG ad ca g a) H → va_S A s.heap H locs → W p l e ({ frames := 1, cells := 0, slots := 0, locals := 24 }) s m ([.ref (ad 0), .int (iI p1), .int (iI p2), .int (iI p3)] : List Value).toArray below meth c H locs 0 0 Q (F0 m 0 ls []) from ST _ _ hP hS
  clear hP hS
  intro H locs hP hS
  refine lv_iload_n hx hb dX13_rule_0 rfl (lv_at hl 1 rfl) ?_
  refine lv_iconst (v := iI 0) hx hb dX13_rule_1 rfl ?_
  refine lv_iconst (v := iI 4) hx hb dX13_rule_2 rfl ?_
  refine jc_i (va_runS (As := [.int (iI p1), .int (iI 0), .int (iI 4)]) (rest := []) ⟨hx, hb, hml, hown, hts⟩ (sX13_in l dC dI _ p1 0 4 (by omega) (by omega) (by omega)) (va_cwS 3 hts (jgoodS m_220 m_364 m_503 m_147) rfl rfl rfl (by decide +kernel) ⟨(Nat.le_of_ble_eq_true rfl), (Nat.le_of_ble_eq_true rfl)⟩) ⟨jw_blind0, fun U hU hW => ⟨rfl, congrArg Array.size hU⟩⟩ rfl rfl hl.1 rfl (lv_room (Nat.le_of_ble_eq_true rfl)) dX13_rule_3 ⟨(Nat.le_of_ble_eq_true rfl), (Nat.le_of_ble_eq_true rfl)⟩) hP hS hA (fun r_1 H locs w_2 hP hS => ?_)
  obtain ⟨z_3, rfl, h_4, h_5⟩ := w_2
  have J54 : ∀ (s0_54 : Int) (H : Heap) (locs : List Loc) (ls : Array Slot), ((-2147483648) ≤ s0_54 ∧ s0_54 ≤ 2147483647) → ((-1) ≤ s0_54 ∧ s0_54 ≤ 13) → va_P (dC, dI) vwCl (mG ad ca g a) H → va_S A s.heap H locs → lv_has ls 5 [(0, .ref (ad 0)), (1, .int (iI p1)), (2, .int (iI p2)), (3, .int (iI p3))] → W p l e ({ frames := 1, cells := 0, slots := 0, locals := 24 }) s m ([.ref (ad 0), .int (iI p1), .int (iI p2), .int (iI p3)] : List Value).toArray below meth c H locs 0 0 Q (F0 m 54 ls [.int (iI s0_54)]) := by
    intro s0_54 H locs ls h_6 h_7 hP hS hl
    refine lv_istore (lv' := [(4, .int (iI s0_54)), (0, .ref (ad 0)), (1, .int (iI p1)), (2, .int (iI p2)), (3, .int (iI p3))]) hx hb dX13_rule_54 hl (by decide) rfl (fun ls hl => ?_)
    refine lv_iload hx hb dX13_rule_56 (lv_at hl 0 rfl) ?_
    refine lv_iconst (v := iI (-1)) hx hb dX13_rule_58 rfl ?_
    refine xr_icmp_eq (tgt := 95) hx hb dX13_rule_59 (by decide) (by omega) (by omega) (fun h_8 => ?_) (fun h_8 => ?_)
    · refine lv_iconst (v := iI (-1)) hx hb dX13_rule_95 rfl ?_
      rw [← hQ]
      exact W.iret (v := iI (-1)) hx hb hr (fun t ht hW => ⟨⟨iI (-1), (), rfl, ⟨(-1), rfl, by omega⟩, trivial⟩, hS.F ht⟩) hS.2.2 dX13_rule_96
    · refine lv_iload_n hx hb dX13_rule_62 rfl (lv_at hl 3 rfl) ?_
      refine lv_iconst (v := iI 0) hx hb dX13_rule_63 rfl ?_
      refine lv_bipush (v := iI 6) hx hb dX13_rule_64 rfl ?_
      refine jc_i (va_runS (As := [.int (iI p2), .int (iI 0), .int (iI 6)]) (rest := []) ⟨hx, hb, hml, hown, hts⟩ (sX13_in l dC dI _ p2 0 6 (by omega) (by omega) (by omega)) (va_cwS 3 hts (jgoodS m_220 m_364 m_503 m_147) rfl rfl rfl (by decide +kernel) ⟨(Nat.le_of_ble_eq_true rfl), (Nat.le_of_ble_eq_true rfl)⟩) ⟨jw_blind0, fun U hU hW => ⟨rfl, congrArg Array.size hU⟩⟩ rfl rfl hl.1 rfl (lv_room (Nat.le_of_ble_eq_true rfl)) dX13_rule_66 ⟨(Nat.le_of_ble_eq_true rfl), (Nat.le_of_ble_eq_true rfl)⟩) hP hS hA (fun r_9 H locs w_10 hP hS => ?_)
      obtain ⟨z_11, rfl, h_12, h_13⟩ := w_10
      refine xr_if_eq (tgt := 95) hx hb dX13_rule_69 (by decide) (by omega) (fun h_14 => ?_) (fun h_14 => ?_)
      · refine lv_iconst (v := iI (-1)) hx hb dX13_rule_95 rfl ?_
        rw [← hQ]
        exact W.iret (v := iI (-1)) hx hb hr (fun t ht hW => ⟨⟨iI (-1), (), rfl, ⟨(-1), rfl, by omega⟩, trivial⟩, hS.F ht⟩) hS.2.2 dX13_rule_96
      · refine lv_iload_n hx hb dX13_rule_72 rfl (lv_at hl 4 rfl) ?_
        refine lv_iconst (v := iI 0) hx hb dX13_rule_73 rfl ?_
        refine lv_aload_n hx hb dX13_rule_74 rfl (lv_at hl 1 rfl) ?_
        refine gf_now hx hb hj hown hK hP hI dX13_rule_75 (fun h_15 => ?_)
        refine jc_i (va_runS (As := [.int (iI p3), .int (iI 0), .int (iI (g 30))]) (rest := []) ⟨hx, hb, hml, hown, hts⟩ (sX13_in l dC dI _ p3 0 (g 30) (by omega) (by omega) (by omega)) (va_cwS 3 hts (jgoodS m_220 m_364 m_503 m_147) rfl rfl rfl (by decide +kernel) ⟨(Nat.le_of_ble_eq_true rfl), (Nat.le_of_ble_eq_true rfl)⟩) ⟨jw_blind0, fun U hU hW => ⟨rfl, congrArg Array.size hU⟩⟩ rfl rfl hl.1 rfl (lv_room (Nat.le_of_ble_eq_true rfl)) dX13_rule_78 ⟨(Nat.le_of_ble_eq_true rfl), (Nat.le_of_ble_eq_true rfl)⟩) hP hS hA (fun r_16 H locs w_17 hP hS => ?_)
        obtain ⟨z_18, rfl, h_19, h_20⟩ := w_17
        refine xr_if_eq (tgt := 95) hx hb dX13_rule_81 (by decide) (by omega) (fun h_21 => ?_) (fun h_21 => ?_)
        · refine lv_iconst (v := iI (-1)) hx hb dX13_rule_95 rfl ?_
          rw [← hQ]
          exact W.iret (v := iI (-1)) hx hb hr (fun t ht hW => ⟨⟨iI (-1), (), rfl, ⟨(-1), rfl, by omega⟩, trivial⟩, hS.F ht⟩) hS.2.2 dX13_rule_96
        · refine lv_aload_n hx hb dX13_rule_84 rfl (lv_at hl 1 rfl) ?_
          refine lv_iload hx hb dX13_rule_85 (lv_at hl 0 rfl) ?_
          refine lv_iload_n hx hb dX13_rule_87 rfl (lv_at hl 3 rfl) ?_
          refine lv_iload_n hx hb dX13_rule_88 rfl (lv_at hl 4 rfl) ?_
          refine jc_i (va_runV (As := [.int (iI s0_54), .int (iI p2), .int (iI p3)]) (rest := []) ⟨hx, hb, hml, hown, hts⟩ (sX13_inForce l dC dI _ ad ca g a s0_54 p2 p3 hI (by omega) (by omega) (by omega) (by omega) hrSh) (cwV 3 hts (jgoodV m_244 m_365 m_366 m_503 m_148) rfl rfl rfl (by decide +kernel) ⟨(Nat.le_of_ble_eq_true rfl), (Nat.le_of_ble_eq_true rfl)⟩) ⟨jw_blind, va_recv hK hP (ci := 13) (q0 := 0) rfl rfl, fun U hU hW => ⟨rfl, jw_of hU hW hP hK hD⟩⟩ rfl rfl hl.1 rfl (lv_room (Nat.le_of_ble_eq_true rfl)) dX13_rule_89 ⟨(Nat.le_of_ble_eq_true rfl), (Nat.le_of_ble_eq_true rfl)⟩) hP hS hA (fun r_22 H locs w_23 hP hS => ?_)
          obtain ⟨z_24, rfl, h_25, h_26⟩ := w_23
          have b_27 : 0 ≤ g 18 ∧ g 18 ≤ 12 := hI.1 18
          refine lv_goto (tgt := 96) hx hb dX13_rule_92 (by decide) ?_
          rw [← hQ]
          exact W.iret (v := iI z_24) hx hb hr (fun t ht hW => ⟨⟨iI z_24, (), rfl, ⟨z_24, rfl, by omega⟩, trivial⟩, hS.F ht⟩) hS.2.2 dX13_rule_96
  refine xr_if_eq (tgt := 13) hx hb dX13_rule_6 (by decide) (by omega) (fun h_28 => ?_) (fun h_28 => ?_)
  · refine lv_iload_n hx hb dX13_rule_13 rfl (lv_at hl 1 rfl) ?_
    refine lv_bipush (v := iI 10) hx hb dX13_rule_14 rfl ?_
    have J53 : ∀ (H : Heap) (locs : List Loc) (ls : Array Slot), va_P (dC, dI) vwCl (mG ad ca g a) H → va_S A s.heap H locs → lv_has ls 5 [(0, .ref (ad 0)), (1, .int (iI p1)), (2, .int (iI p2)), (3, .int (iI p3))] → W p l e ({ frames := 1, cells := 0, slots := 0, locals := 24 }) s m ([.ref (ad 0), .int (iI p1), .int (iI p2), .int (iI p3)] : List Value).toArray below meth c H locs 0 0 Q (F0 m 53 ls []) := by
      intro H locs ls hP hS hl
      refine lv_iconst (v := iI (-1)) hx hb dX13_rule_53 rfl ?_
      exact J54 (-1) H locs ls (by omega) (by omega) hP hS hl
    refine xr_icmp_lt (tgt := 53) hx hb dX13_rule_16 (by decide) (by omega) (by omega) (fun h_29 => ?_) (fun h_29 => ?_)
    · exact J53 H locs ls hP hS hl
    · refine lv_iload_n hx hb dX13_rule_19 rfl (lv_at hl 1 rfl) ?_
      refine lv_bipush (v := iI 10) hx hb dX13_rule_20 rfl ?_
      refine xr_div hx hb dX13_rule_22 (by omega) (by omega) (by omega) (by omega) ?_
      refine lv_iconst (v := iI 3) hx hb dX13_rule_23 rfl ?_
      refine xr_icmp_gt (tgt := 53) hx hb dX13_rule_24 (by decide) (by omega) (by omega) (fun h_30 => ?_) (fun h_30 => ?_)
      · exact J53 H locs ls hP hS hl
      · refine lv_iload_n hx hb dX13_rule_27 rfl (lv_at hl 1 rfl) ?_
        refine lv_bipush (v := iI 10) hx hb dX13_rule_28 rfl ?_
        refine xr_rem hx hb dX13_rule_30 (by omega) (by omega) (by omega) (by omega) ?_
        refine lv_iconst (v := iI 2) hx hb dX13_rule_31 rfl ?_
        refine xr_icmp_gt (tgt := 53) hx hb dX13_rule_32 (by decide) (by omega) (by omega) (fun h_31 => ?_) (fun h_31 => ?_)
        · exact J53 H locs ls hP hS hl
        · refine lv_iconst (v := iI 5) hx hb dX13_rule_35 rfl ?_
          refine lv_iconst (v := iI 3) hx hb dX13_rule_36 rfl ?_
          refine lv_iload_n hx hb dX13_rule_37 rfl (lv_at hl 1 rfl) ?_
          refine lv_bipush (v := iI 10) hx hb dX13_rule_38 rfl ?_
          refine xr_div hx hb dX13_rule_40 (by omega) (by omega) (by omega) (by omega) ?_
          refine lv_iconst (v := iI 1) hx hb dX13_rule_41 rfl ?_
          refine xr_sub hx hb dX13_rule_42 ?_
          refine xr_mul hx hb dX13_rule_43 ?_
          refine xr_add hx hb dX13_rule_44 ?_
          refine lv_iload_n hx hb dX13_rule_45 rfl (lv_at hl 1 rfl) ?_
          refine lv_bipush (v := iI 10) hx hb dX13_rule_46 rfl ?_
          refine xr_rem hx hb dX13_rule_48 (by omega) (by omega) (by omega) (by omega) ?_
          refine xr_add hx hb dX13_rule_49 ?_
          refine lv_goto (tgt := 54) hx hb dX13_rule_50 (by decide) ?_
          exact J54 ((5 + (3 * ((p1 / 10) - 1))) + (p1 % 10)) H locs ls (by omega) (by omega) hP hS hl
  · refine lv_iload_n hx hb dX13_rule_9 rfl (lv_at hl 1 rfl) ?_
    refine lv_goto (tgt := 54) hx hb dX13_rule_10 (by decide) ?_
    exact J54 p1 H locs ls (by omega) (by omega) hP hS hl
set_option maxHeartbeats 2000000 in
set_option maxRecDepth 100000 in
theorem sX13_end (l : Launch) (dC : Nat → ClassId) (dI : Nat → Nat → Nat) (sz : Nat) (ad : Nat → Nat) (ca : Nat → ClassId) (g : Nat → Int) (a : Nat → Int → Int) (p1 : Int) (hI : mI g a) (q1 : rg p1) : Met l yX13_end (jk yX13_end cX13_end 2 (some .boolean)) ({ frames := 1, cells := 0, slots := 0, locals := 22 }) (va_Pc [.ref (ad 0), .int (iI p1)] (jw_P (dC, dI) (mG ad ca g a) (mT ca) sz)) (va_Qi (fun (r : Int32) (u : (Nat → Int) × (Nat → Int → Int)) => ∃ z : Int, r = iI z ∧ (mI u.1 u.2) ∧ (∀ j, j ∉ ([1] : List Nat) → u.1 j = g j) ∧ (∀ j, j ∉ ([] : List Nat) → u.2 j = a j) ∧ (0 ≤ z ∧ z ≤ 1) ∧ ((z = 0 ∧ u.1 1 = g 1 ∧ (p1 < 0 ∨ g 1 < p1)) ∨ (z = 1 ∧ u.1 1 = p1 ∧ 0 ≤ p1 ∧ p1 ≤ g 1))) (fun u t => va_P (dC, dI) vwCl (mG ad ca u.1 u.2) t.heap ∧ va_K (dC, dI) vwCl (mT ca) t ∧ va_D (va_A (mG ad ca g a) sz) (mG ad ca u.1 u.2)) (va_A (mG ad ca g a) sz)) 0 0 (va_A (mG ad ca g a) sz) := by
  refine Met.ofW (cc := cX13_end) (maxL := 2) (ret := (some .boolean)) (by decide) rfl ?_
  intro p e s m args below meth c s₁ B hml hv
  obtain ⟨rfl, hsz, hP, hK, hD0⟩ := hv
  have hx := B.exec
  have hb := B.bytes
  have hr := B.returns
  have hts := atoms_spec (ws := (jk yX13_end cX13_end 2 (some .boolean))) B.pre
  have hj : ∀ w ∈ jw, w.before ([.ref (ad 0), .int (iI p1)] : List Value).toArray s = true := fun w h => hts w (jm h)
  have hown : s.vm.findClass RX13 = some m.cls := findClass_of_methodNamed B.named
  subst hsz
  have hD := hD0.self (sz := s.heap.size)
  generalize hAe : (va_A (mG ad ca g a) s.heap.size) = A at hD ⊢
  have hA : ∀ q : Nat, s.heap.size ≤ q → A q := fun q h => by rw [← hAe]; exact Or.inr h
  have hS : va_S A s.heap s.heap [] := va_S.rf
  have hP : va_P (dC, dI) vwCl (mG ad ca g a) s.heap := hP
  have hfA : ∀ j, j ∉ ([1] : List Nat) → g j = g j := fun _ _ => rfl
  have haA : ∀ j, j ∉ ([] : List Nat) → a j = a j := fun _ _ => rfl
  have hl := lv_entry ([.ref (ad 0), .int (iI p1)]) (n := 2) (Nat.le_of_ble_eq_true rfl)
  rw [lg_entry_eq]
  generalize (lg_sl ([.ref (ad 0), .int (iI p1)]) ++ List.replicate (2 - (lg_sl ([.ref (ad 0), .int (iI p1)])).length) Slot.unset).toArray = ls at hl ⊢
  have hl : lv_has ls 2 [(0, .ref (ad 0)), (1, .int (iI p1))] := hl
  generalize hQ : MQ below (va_Qi (fun (r : Int32) (u : (Nat → Int) × (Nat → Int → Int)) => ∃ z : Int, r = iI z ∧ (mI u.1 u.2) ∧ (∀ j, j ∉ ([1] : List Nat) → u.1 j = g j) ∧ (∀ j, j ∉ ([] : List Nat) → u.2 j = a j) ∧ (0 ≤ z ∧ z ≤ 1) ∧ ((z = 0 ∧ u.1 1 = g 1 ∧ (p1 < 0 ∨ g 1 < p1)) ∨ (z = 1 ∧ u.1 1 = p1 ∧ 0 ≤ p1 ∧ p1 ≤ g 1))) (fun u t => va_P (dC, dI) vwCl (mG ad ca u.1 u.2) t.heap ∧ va_K (dC, dI) vwCl (mT ca) t ∧ va_D A (mG ad ca u.1 u.2)) A) ([.ref (ad 0), .int (iI p1)] : List Value).toArray s 0 0 A = Q
  suffices ST : ∀ (H : Heap) (locs : List Loc), va_P (dC, dI) vwCl (mG ad ca g a) H → va_S A s.heap H locs → W p l e ({ frames := 1, cells := 0, slots := 0, locals := 22 }) s m ([.ref (ad 0), .int (iI p1)] : List Value).toArray below meth c H locs 0 0 Q (F0 m 0 ls []) from ST _ _ hP hS
  clear hP hS
  intro H locs hP hS
  have b1_0 : 0 ≤ g 1 ∧ g 1 ≤ 600 := hI.1 1
  refine lv_iload_n hx hb dX13_end_0 rfl (lv_at hl 1 rfl) ?_
  refine lv_iconst (v := iI 0) hx hb dX13_end_1 rfl ?_
  refine lv_aload_n hx hb dX13_end_2 rfl (lv_at hl 0 rfl) ?_
  refine gf_size hx hb hj hown hK hP hI dX13_end_3 (fun h_1 => ?_)
  refine jc_i (va_runS (As := [.int (iI p1), .int (iI 0), .int (iI (g 1))]) (rest := []) ⟨hx, hb, hml, hown, hts⟩ (sX13_in l dC dI _ p1 0 (g 1) (by omega) (by omega) (by omega)) (va_cwS 3 hts (jgoodS m_220 m_364 m_503 m_147) rfl rfl rfl (by decide +kernel) ⟨(Nat.le_of_ble_eq_true rfl), (Nat.le_of_ble_eq_true rfl)⟩) ⟨jw_blind0, fun U hU hW => ⟨rfl, congrArg Array.size hU⟩⟩ rfl rfl hl.1 rfl (lv_room (Nat.le_of_ble_eq_true rfl)) dX13_end_6 ⟨(Nat.le_of_ble_eq_true rfl), (Nat.le_of_ble_eq_true rfl)⟩) hP hS hA (fun r_2 H locs w_3 hP hS => ?_)
  obtain ⟨z_4, rfl, h_5, h_6⟩ := w_3
  refine xr_if_ne (tgt := 14) hx hb dX13_end_9 (by decide) (by omega) (fun h_7 => ?_) (fun h_7 => ?_)
  · refine lv_aload_n hx hb dX13_end_14 rfl (lv_at hl 0 rfl) ?_
    refine lv_iload_n hx hb dX13_end_15 rfl (lv_at hl 1 rfl) ?_
    refine pf_size hx hb hj hown hK hP hD hS hI (by omega) (by omega) dX13_end_16 (fun g_8 H locs e_9 e_10 hI hP hD hS => ?_)
    have hfA : ∀ j, j ∉ ([1] : List Nat) → g_8 j = g j := fun j h => (e_9 j (fun q => h (q ▸ (by decide : 1 ∈ ([1] : List Nat))))).trans (hfA j h)
    refine lv_iconst (v := iI 1) hx hb dX13_end_19 rfl ?_
    rw [← hQ]
    exact W.zret (v := iI 1) (ty := .boolean) hx hb hr (nb_bool (by omega) (by omega)) (fun t ht hW => ⟨⟨iI 1, (g_8, a), rfl, ⟨1, rfl, hI, hfA, haA, by omega, by show (1 = 0 ∧ g_8 1 = g 1 ∧ (p1 < 0 ∨ g 1 < p1)) ∨ (1 = 1 ∧ g_8 1 = p1 ∧ 0 ≤ p1 ∧ p1 ≤ g 1); omega⟩, by rw [ht]; exact hP, va_K.moved hW.alike hK, hD⟩, hS.F ht⟩) hS.2.2 dX13_end_20
  · refine lv_iconst (v := iI 0) hx hb dX13_end_12 rfl ?_
    rw [← hQ]
    exact W.zret (v := iI 0) (ty := .boolean) hx hb hr (nb_bool (by omega) (by omega)) (fun t ht hW => ⟨⟨iI 0, (g, a), rfl, ⟨0, rfl, hI, hfA, haA, by omega, by show (0 = 0 ∧ g 1 = g 1 ∧ (p1 < 0 ∨ g 1 < p1)) ∨ (0 = 1 ∧ g 1 = p1 ∧ 0 ≤ p1 ∧ p1 ≤ g 1); omega⟩, by rw [ht]; exact hP, va_K.moved hW.alike hK, hD⟩, hS.F ht⟩) hS.2.2 dX13_end_13
set_option maxHeartbeats 2000000 in
set_option maxRecDepth 100000 in
theorem sX13_feed (l : Launch) (dC : Nat → ClassId) (dI : Nat → Nat → Nat) (sz : Nat) (ad : Nat → Nat) (ca : Nat → ClassId) (g : Nat → Int) (a : Nat → Int → Int) (p1 : Int) (p2 : Int) (p3 : Int) (p4 : Int) (p5 : Int) (hI : mI g a) (q1 : rg p1) (q2 : rg p2) (q3 : rg p3) (q4 : rg p4) (q5 : rg p5) : Met l yX13_feed (jk yX13_feed cX13_feed 8 (some .int)) ({ frames := 0, cells := 0, slots := 0, locals := 0 }) (va_Pc [.ref (ad 0), .int (iI p1), .int (iI p2), .int (iI p3), .int (iI p4), .int (iI p5)] (jw_P (dC, dI) (mG ad ca g a) (mT ca) sz)) (va_Qi (fun (r : Int32) (u : (Nat → Int) × (Nat → Int → Int)) => ∃ z : Int, r = iI z ∧ (mI u.1 u.2) ∧ (∀ j, j ∉ ([1] : List Nat) → u.1 j = g j) ∧ (∀ j, j ∉ ([1] : List Nat) → u.2 j = a j) ∧ (rg z) ∧ ((z = -1 ∧ 580 < g 1 ∧ u.1 1 = g 1) ∨ (z = g 1 + 20 ∧ g 1 ≤ 580 ∧ u.1 1 = g 1 + 20)) ∧ (z = -1 → u.2 1 = a 1) ∧ (z ≠ -1 → rTT u.1 u.2 = fdT (rTT g a) (g 1) p1 p2 p3 p4 p5)) (fun u t => va_P (dC, dI) vwCl (mG ad ca u.1 u.2) t.heap ∧ va_K (dC, dI) vwCl (mT ca) t ∧ va_D (va_A (mG ad ca g a) sz) (mG ad ca u.1 u.2)) (va_A (mG ad ca g a) sz)) 0 0 (va_A (mG ad ca g a) sz) := by
  refine Met.ofW (cc := cX13_feed) (maxL := 8) (ret := (some .int)) (by decide) rfl ?_
  intro p e s m args below meth c s₁ B hml hv
  obtain ⟨rfl, hsz, hP, hK, hD0⟩ := hv
  have hx := B.exec
  have hb := B.bytes
  have hr := B.returns
  have hts := atoms_spec (ws := (jk yX13_feed cX13_feed 8 (some .int))) B.pre
  have hj : ∀ w ∈ jw, w.before ([.ref (ad 0), .int (iI p1), .int (iI p2), .int (iI p3), .int (iI p4), .int (iI p5)] : List Value).toArray s = true := fun w h => hts w (jm h)
  have hown : s.vm.findClass RX13 = some m.cls := findClass_of_methodNamed B.named
  subst hsz
  have hD := hD0.self (sz := s.heap.size)
  generalize hAe : (va_A (mG ad ca g a) s.heap.size) = A at hD ⊢
  have hA : ∀ q : Nat, s.heap.size ≤ q → A q := fun q h => by rw [← hAe]; exact Or.inr h
  have hS : va_S A s.heap s.heap [] := va_S.rf
  have hP : va_P (dC, dI) vwCl (mG ad ca g a) s.heap := hP
  have hfA : ∀ j, j ∉ ([1] : List Nat) → g j = g j := fun _ _ => rfl
  have haA : ∀ j, j ∉ ([1] : List Nat) → a j = a j := fun _ _ => rfl
  have hl := lv_entry ([.ref (ad 0), .int (iI p1), .int (iI p2), .int (iI p3), .int (iI p4), .int (iI p5)]) (n := 8) (Nat.le_of_ble_eq_true rfl)
  rw [lg_entry_eq]
  generalize (lg_sl ([.ref (ad 0), .int (iI p1), .int (iI p2), .int (iI p3), .int (iI p4), .int (iI p5)]) ++ List.replicate (8 - (lg_sl ([.ref (ad 0), .int (iI p1), .int (iI p2), .int (iI p3), .int (iI p4), .int (iI p5)])).length) Slot.unset).toArray = ls at hl ⊢
  have hl : lv_has ls 8 [(0, .ref (ad 0)), (1, .int (iI p1)), (2, .int (iI p2)), (3, .int (iI p3)), (4, .int (iI p4)), (5, .int (iI p5))] := hl
  generalize hQ : MQ below (va_Qi (fun (r : Int32) (u : (Nat → Int) × (Nat → Int → Int)) => ∃ z : Int, r = iI z ∧ (mI u.1 u.2) ∧ (∀ j, j ∉ ([1] : List Nat) → u.1 j = g j) ∧ (∀ j, j ∉ ([1] : List Nat) → u.2 j = a j) ∧ (rg z) ∧ ((z = -1 ∧ 580 < g 1 ∧ u.1 1 = g 1) ∨ (z = g 1 + 20 ∧ g 1 ≤ 580 ∧ u.1 1 = g 1 + 20)) ∧ (z = -1 → u.2 1 = a 1) ∧ (z ≠ -1 → rTT u.1 u.2 = fdT (rTT g a) (g 1) p1 p2 p3 p4 p5)) (fun u t => va_P (dC, dI) vwCl (mG ad ca u.1 u.2) t.heap ∧ va_K (dC, dI) vwCl (mT ca) t ∧ va_D A (mG ad ca u.1 u.2)) A) ([.ref (ad 0), .int (iI p1), .int (iI p2), .int (iI p3), .int (iI p4), .int (iI p5)] : List Value).toArray s 0 0 A = Q
  suffices ST : ∀ (H : Heap) (locs : List Loc), va_P (dC, dI) vwCl (mG ad ca g a) H → va_S A s.heap H locs → W p l e ({ frames := 0, cells := 0, slots := 0, locals := 0 }) s m ([.ref (ad 0), .int (iI p1), .int (iI p2), .int (iI p3), .int (iI p4), .int (iI p5)] : List Value).toArray below meth c H locs 0 0 Q (F0 m 0 ls []) from ST _ _ hP hS
  clear hP hS
  intro H locs hP hS
  have b1_0 : 0 ≤ g 1 ∧ g 1 ≤ 600 := hI.1 1
  refine lv_aload_n hx hb dX13_feed_0 rfl (lv_at hl 0 rfl) ?_
  refine gf_size hx hb hj hown hK hP hI dX13_feed_1 (fun h_1 => ?_)
  refine lv_bipush (v := iI 20) hx hb dX13_feed_4 rfl ?_
  refine xr_add hx hb dX13_feed_6 ?_
  refine lv_sipush (v := iI 600) hx hb dX13_feed_7 rfl ?_
  refine xr_icmp_le (tgt := 15) hx hb dX13_feed_10 (by decide) (by omega) (by omega) (fun h_2 => ?_) (fun h_2 => ?_)
  · refine lv_iconst (v := iI 0) hx hb dX13_feed_15 rfl ?_
    refine lv_istore (lv' := [(6, .int (iI 0)), (0, .ref (ad 0)), (1, .int (iI p1)), (2, .int (iI p2)), (3, .int (iI p3)), (4, .int (iI p4)), (5, .int (iI p5))]) hx hb dX13_feed_16 hl (by decide) rfl (fun ls hl => ?_)
    have L18 : ∀ (n18 : Nat) (v6_18 : Int) (g_18 : Nat → Int) (a_18 : Nat → Int → Int) (H : Heap) (locs : List Loc) (ls : Array Slot), (0 ≤ v6_18 ∧ v6_18 ≤ 2147483647) → (g_18 1 = g 1 + v6_18) → (0 ≤ v6_18 ∧ v6_18 ≤ 20) → (fdI p1 p2 p3 p4 p5 (g 1) (v6_18) (a_18 1) (a 1)) → (mI g_18 a_18) → (∀ j, j ∉ ([1] : List Nat) → g_18 j = g j) → (∀ j, j ∉ ([1] : List Nat) → a_18 j = a j) → (0 < (n18 : Int) ∧ 20 - v6_18 < (n18 : Int)) → va_P (dC, dI) vwCl (mG ad ca g_18 a_18) H → va_D A (mG ad ca g_18 a_18) → va_S A s.heap H locs → lv_has ls 8 [(6, .int (iI v6_18)), (0, .ref (ad 0)), (1, .int (iI p1)), (2, .int (iI p2)), (3, .int (iI p3)), (4, .int (iI p4)), (5, .int (iI p5))] → W p l e ({ frames := 0, cells := 0, slots := 0, locals := 0 }) s m ([.ref (ad 0), .int (iI p1), .int (iI p2), .int (iI p3), .int (iI p4), .int (iI p5)] : List Value).toArray below meth c H locs 0 0 Q (F0 m 18 ls []) := by
      intro n18
      induction n18 with
      | zero =>
        intro v6_18 g_18 a_18 H locs ls h_3 h_4 h_5 h_6 hI hfA haA hm18 hP hD hS hl
        exfalso; omega
      | succ n18 ih18 =>
        intro v6_18 g_18 a_18 H locs ls h_7 h_8 h_9 h_10 hI hfA haA hm18 hP hD hS hl
        refine lv_iload hx hb dX13_feed_18 (lv_at hl 0 rfl) ?_
        refine lv_bipush (v := iI 20) hx hb dX13_feed_20 rfl ?_
        refine xr_icmp_ge (tgt := 112) hx hb dX13_feed_22 (by decide) (by omega) (by omega) (fun h_11 => ?_) (fun h_11 => ?_)
        · refine lv_aload_n hx hb dX13_feed_112 rfl (lv_at hl 1 rfl) ?_
          refine gf_size hx hb hj hown hK hP hI dX13_feed_113 (fun h_12 => ?_)
          rw [← hQ]
          exact W.iret (v := iI (g_18 1)) hx hb hr (fun t ht hW => ⟨⟨iI (g_18 1), (g_18, a_18), rfl, ⟨g_18 1, rfl, hI, hfA, haA, by omega, by show ((g_18 1) = -1 ∧ 580 < g 1 ∧ g_18 1 = g 1) ∨ ((g_18 1) = g 1 + 20 ∧ g 1 ≤ 580 ∧ g_18 1 = g 1 + 20); omega, by show (g_18 1) = -1 → a_18 1 = a 1; intro hz9; first | exact rfl | (exfalso; omega), by show (g_18 1) ≠ -1 → rTT g_18 a_18 = fdT (rTT g a) (g 1) p1 p2 p3 p4 p5; intro hz9; first | exact fdI_e (show fdI p1 p2 p3 p4 p5 (g 1) v6_18 (a_18 1) (a 1) by assumption) (by omega) rfl (by omega) (by omega) | (exfalso; omega)⟩, by rw [ht]; exact hP, va_K.moved hW.alike hK, hD⟩, hS.F ht⟩) hS.2.2 dX13_feed_116
        · refine lv_iload hx hb dX13_feed_25 (lv_at hl 0 rfl) ?_
          refine lv_iconst (v := iI 4) hx hb dX13_feed_27 rfl ?_
          have J71 : ∀ (s0_71 : Int) (H : Heap) (locs : List Loc) (ls : Array Slot), ((-2147483648) ≤ s0_71 ∧ s0_71 ≤ 2147483647) → ((v6_18 < 4 ∧ s0_71 = p1) ∨ (4 ≤ v6_18 ∧ v6_18 < 8 ∧ s0_71 = p2) ∨ (8 ≤ v6_18 ∧ v6_18 < 12 ∧ s0_71 = p3) ∨ (12 ≤ v6_18 ∧ v6_18 < 16 ∧ s0_71 = p4) ∨ (16 ≤ v6_18 ∧ s0_71 = p5)) → va_P (dC, dI) vwCl (mG ad ca g_18 a_18) H → va_D A (mG ad ca g_18 a_18) → va_S A s.heap H locs → lv_has ls 8 [(6, .int (iI v6_18)), (0, .ref (ad 0)), (1, .int (iI p1)), (2, .int (iI p2)), (3, .int (iI p3)), (4, .int (iI p4)), (5, .int (iI p5))] → W p l e ({ frames := 0, cells := 0, slots := 0, locals := 0 }) s m ([.ref (ad 0), .int (iI p1), .int (iI p2), .int (iI p3), .int (iI p4), .int (iI p5)] : List Value).toArray below meth c H locs 0 0 Q (F0 m 71 ls [.int (iI s0_71)]) := by
            intro s0_71 H locs ls h_13 h_14 hP hD hS hl
            refine lv_istore (lv' := [(7, .int (iI s0_71)), (6, .int (iI v6_18)), (0, .ref (ad 0)), (1, .int (iI p1)), (2, .int (iI p2)), (3, .int (iI p3)), (4, .int (iI p4)), (5, .int (iI p5))]) hx hb dX13_feed_71 hl (by decide) rfl (fun ls hl => ?_)
            refine lv_aload_n hx hb dX13_feed_73 rfl (lv_at hl 2 rfl) ?_
            refine gf_text hx hb hj hown hK hP dX13_feed_74 ?_
            refine lv_aload_n hx hb dX13_feed_77 rfl (lv_at hl 2 rfl) ?_
            refine gf_size hx hb hj hown hK hP hI dX13_feed_78 (fun h_15 => ?_)
            refine lv_iload hx hb dX13_feed_81 (lv_at hl 0 rfl) ?_
            refine lv_bipush (v := iI 24) hx hb dX13_feed_83 rfl ?_
            refine lv_bipush (v := iI 8) hx hb dX13_feed_85 rfl ?_
            refine lv_iload hx hb dX13_feed_87 (lv_at hl 1 rfl) ?_
            refine lv_iconst (v := iI 4) hx hb dX13_feed_89 rfl ?_
            refine xr_rem hx hb dX13_feed_90 (by omega) (by omega) (by omega) (by omega) ?_
            refine xr_mul hx hb dX13_feed_91 ?_
            refine xr_sub hx hb dX13_feed_92 ?_
            refine lv_ishr hx hb dX13_feed_93 ?_
            refine jt_i (iI (zshr s0_71 (24 - (8 * (v6_18 % 4))))) (iI_of _) ?_
            have b_16 : rg (zshr s0_71 (24 - (8 * (v6_18 % 4)))) := rg_of _
            refine lv_i2b hx hb dX13_feed_94 rfl ?_
            refine jt_i (iI (zi8 (zshr s0_71 (24 - (8 * (v6_18 % 4)))))) (by unfold zi8; rw [vp_nar_byte]; exact iI_of _) ?_
            have b_17 := zi8_b (zshr s0_71 (24 - (8 * (v6_18 % 4))))
            refine sb_text hx hb hK hP hD hS hI (by omega) (by omega) (by omega) (by omega) dX13_feed_95 (fun a_19 H locs e_20 e_21 hI hP hD hS => ?_)
            have haA : ∀ j, j ∉ ([1] : List Nat) → a_19 j = a j := fun j h => (e_20 j (fun q => h (q ▸ (by decide : 1 ∈ ([1] : List Nat))))).trans (haA j h)
            have t_22 : a_19 1 = up (a_18 1) (g_18 1) (zi8 (zshr s0_71 (24 - (8 * (v6_18 % 4))))) := e_21.trans (up_c rfl (by omega) (by omega))
            refine lv_aload_n hx hb dX13_feed_96 rfl (lv_at hl 2 rfl) ?_
            refine lv_dup hx hb dX13_feed_97 rfl ?_
            refine gf_size hx hb hj hown hK hP hI dX13_feed_98 (fun h_23 => ?_)
            refine lv_iconst (v := iI 1) hx hb dX13_feed_101 rfl ?_
            refine xr_add hx hb dX13_feed_102 ?_
            refine pf_size hx hb hj hown hK hP hD hS hI (by omega) (by omega) dX13_feed_103 (fun g_24 H locs e_25 e_26 hI hP hD hS => ?_)
            have hfA : ∀ j, j ∉ ([1] : List Nat) → g_24 j = g j := fun j h => (e_25 j (fun q => h (q ▸ (by decide : 1 ∈ ([1] : List Nat))))).trans (hfA j h)
            refine lv_iinc (v := iI (v6_18 + 1)) (lv' := [(6, .int (iI (v6_18 + 1))), (7, .int (iI s0_71)), (0, .ref (ad 0)), (1, .int (iI p1)), (2, .int (iI p2)), (3, .int (iI p3)), (4, .int (iI p4)), (5, .int (iI p5))]) hx hb dX13_feed_106 hl (k := 1) rfl (iI_add _ _) (by decide) rfl (fun ls hl => ?_)
            refine lv_goto (tgt := 18) hx hb dX13_feed_109 (by decide) ?_
            exact ih18 (v6_18 + 1) g_24 a_19 H locs ls (by omega) (by omega) (by omega) (by first | exact fdI_0 rfl t_22 | exact fdI_s (show fdI p1 p2 p3 p4 p5 (g 1) v6_18 (a_18 1) (a 1) by assumption) (by omega) rfl (by omega) t_22 (fdB_of (by omega))) hI hfA haA (by omega) hP hD hS (lv_sub hl [0, 2, 3, 4, 5, 6, 7] rfl)
          refine xr_icmp_ge (tgt := 35) hx hb dX13_feed_28 (by decide) (by omega) (by omega) (fun h_27 => ?_) (fun h_27 => ?_)
          · refine lv_iload hx hb dX13_feed_35 (lv_at hl 0 rfl) ?_
            refine lv_bipush (v := iI 8) hx hb dX13_feed_37 rfl ?_
            refine xr_icmp_ge (tgt := 46) hx hb dX13_feed_39 (by decide) (by omega) (by omega) (fun h_28 => ?_) (fun h_28 => ?_)
            · refine lv_iload hx hb dX13_feed_46 (lv_at hl 0 rfl) ?_
              refine lv_bipush (v := iI 12) hx hb dX13_feed_48 rfl ?_
              refine xr_icmp_ge (tgt := 57) hx hb dX13_feed_50 (by decide) (by omega) (by omega) (fun h_29 => ?_) (fun h_29 => ?_)
              · refine lv_iload hx hb dX13_feed_57 (lv_at hl 0 rfl) ?_
                refine lv_bipush (v := iI 16) hx hb dX13_feed_59 rfl ?_
                refine xr_icmp_ge (tgt := 69) hx hb dX13_feed_61 (by decide) (by omega) (by omega) (fun h_30 => ?_) (fun h_30 => ?_)
                · refine lv_iload hx hb dX13_feed_69 (lv_at hl 6 rfl) ?_
                  exact J71 p5 H locs ls (by omega) (by omega) hP hD hS hl
                · refine lv_iload hx hb dX13_feed_64 (lv_at hl 5 rfl) ?_
                  refine lv_goto (tgt := 71) hx hb dX13_feed_66 (by decide) ?_
                  exact J71 p4 H locs ls (by omega) (by omega) hP hD hS hl
              · refine lv_iload_n hx hb dX13_feed_53 rfl (lv_at hl 4 rfl) ?_
                refine lv_goto (tgt := 71) hx hb dX13_feed_54 (by decide) ?_
                exact J71 p3 H locs ls (by omega) (by omega) hP hD hS hl
            · refine lv_iload_n hx hb dX13_feed_42 rfl (lv_at hl 3 rfl) ?_
              refine lv_goto (tgt := 71) hx hb dX13_feed_43 (by decide) ?_
              exact J71 p2 H locs ls (by omega) (by omega) hP hD hS hl
          · refine lv_iload_n hx hb dX13_feed_31 rfl (lv_at hl 2 rfl) ?_
            refine lv_goto (tgt := 71) hx hb dX13_feed_32 (by decide) ?_
            exact J71 p1 H locs ls (by omega) (by omega) hP hD hS hl
    exact L18 (((20 - 0 : Int)).toNat + 1) 0 g a H locs ls (by omega) (by omega) (by omega) (by first | exact fdI_0 rfl rfl | exact fdI_s (show fdI p1 p2 p3 p4 p5 (g 1) _ (_ 1) (a 1) by assumption) (by omega) rfl (by omega) _ (fdB_of (by omega))) hI hfA haA (by omega) hP hD hS hl
  · refine lv_iconst (v := iI (-1)) hx hb dX13_feed_13 rfl ?_
    rw [← hQ]
    exact W.iret (v := iI (-1)) hx hb hr (fun t ht hW => ⟨⟨iI (-1), (g, a), rfl, ⟨(-1), rfl, hI, hfA, haA, by omega, by show ((-1) = -1 ∧ 580 < g 1 ∧ g 1 = g 1) ∨ ((-1) = g 1 + 20 ∧ g 1 ≤ 580 ∧ g 1 = g 1 + 20); omega, by show (-1) = -1 → a 1 = a 1; intro hz9; first | exact rfl | (exfalso; omega), by show (-1) ≠ -1 → rTT g a = fdT (rTT g a) (g 1) p1 p2 p3 p4 p5; intro hz9; first | exact fdI_e (show fdI p1 p2 p3 p4 p5 (g 1) _ (a 1) (a 1) by assumption) (by omega) rfl (by omega) (by omega) | (exfalso; omega)⟩, by rw [ht]; exact hP, va_K.moved hW.alike hK, hD⟩, hS.F ht⟩) hS.2.2 dX13_feed_14
set_option maxHeartbeats 2000000 in
set_option maxRecDepth 100000 in
theorem sX13_steal (l : Launch) (dC : Nat → ClassId) (dI : Nat → Nat → Nat) (sz : Nat) (ad : Nat → Nat) (ca : Nat → ClassId) (g : Nat → Int) (a : Nat → Int → Int) (p1 : Int) (hI : mI g a) (q1 : rg p1) : Met l yX13_steal (jk yX13_steal cX13_steal 2 (some .int)) ({ frames := 1, cells := 0, slots := 0, locals := 22 }) (va_Pc [.ref (ad 0), .int (iI p1)] (jw_P (dC, dI) (mG ad ca g a) (mT ca) sz)) (va_Qi (fun (r : Int32) (u : (Nat → Int) × (Nat → Int → Int)) => ∃ z : Int, r = iI z ∧ (mI u.1 u.2) ∧ (∀ j, j ∉ ([78] : List Nat) → u.1 j = g j) ∧ (∀ j, j ∉ ([61] : List Nat) → u.2 j = a j) ∧ (rg z) ∧ ((z = -1 ∧ u.1 78 = g 78 ∧ (p1 < 0 ∨ 999 < p1 ∨ g 78 = 30)) ∨ (z = g 78 + 1 ∧ u.1 78 = g 78 + 1 ∧ 0 ≤ p1 ∧ p1 ≤ 999 ∧ g 78 ≠ 30))) (fun u t => va_P (dC, dI) vwCl (mG ad ca u.1 u.2) t.heap ∧ va_K (dC, dI) vwCl (mT ca) t ∧ va_D (va_A (mG ad ca g a) sz) (mG ad ca u.1 u.2)) (va_A (mG ad ca g a) sz)) 0 0 (va_A (mG ad ca g a) sz) := by
  refine Met.ofW (cc := cX13_steal) (maxL := 2) (ret := (some .int)) (by decide) rfl ?_
  intro p e s m args below meth c s₁ B hml hv
  obtain ⟨rfl, hsz, hP, hK, hD0⟩ := hv
  have hx := B.exec
  have hb := B.bytes
  have hr := B.returns
  have hts := atoms_spec (ws := (jk yX13_steal cX13_steal 2 (some .int))) B.pre
  have hj : ∀ w ∈ jw, w.before ([.ref (ad 0), .int (iI p1)] : List Value).toArray s = true := fun w h => hts w (jm h)
  have hown : s.vm.findClass RX13 = some m.cls := findClass_of_methodNamed B.named
  subst hsz
  have hD := hD0.self (sz := s.heap.size)
  generalize hAe : (va_A (mG ad ca g a) s.heap.size) = A at hD ⊢
  have hA : ∀ q : Nat, s.heap.size ≤ q → A q := fun q h => by rw [← hAe]; exact Or.inr h
  have hS : va_S A s.heap s.heap [] := va_S.rf
  have hP : va_P (dC, dI) vwCl (mG ad ca g a) s.heap := hP
  have hfA : ∀ j, j ∉ ([78] : List Nat) → g j = g j := fun _ _ => rfl
  have haA : ∀ j, j ∉ ([61] : List Nat) → a j = a j := fun _ _ => rfl
  have hl := lv_entry ([.ref (ad 0), .int (iI p1)]) (n := 2) (Nat.le_of_ble_eq_true rfl)
  rw [lg_entry_eq]
  generalize (lg_sl ([.ref (ad 0), .int (iI p1)]) ++ List.replicate (2 - (lg_sl ([.ref (ad 0), .int (iI p1)])).length) Slot.unset).toArray = ls at hl ⊢
  have hl : lv_has ls 2 [(0, .ref (ad 0)), (1, .int (iI p1))] := hl
  generalize hQ : MQ below (va_Qi (fun (r : Int32) (u : (Nat → Int) × (Nat → Int → Int)) => ∃ z : Int, r = iI z ∧ (mI u.1 u.2) ∧ (∀ j, j ∉ ([78] : List Nat) → u.1 j = g j) ∧ (∀ j, j ∉ ([61] : List Nat) → u.2 j = a j) ∧ (rg z) ∧ ((z = -1 ∧ u.1 78 = g 78 ∧ (p1 < 0 ∨ 999 < p1 ∨ g 78 = 30)) ∨ (z = g 78 + 1 ∧ u.1 78 = g 78 + 1 ∧ 0 ≤ p1 ∧ p1 ≤ 999 ∧ g 78 ≠ 30))) (fun u t => va_P (dC, dI) vwCl (mG ad ca u.1 u.2) t.heap ∧ va_K (dC, dI) vwCl (mT ca) t ∧ va_D A (mG ad ca u.1 u.2)) A) ([.ref (ad 0), .int (iI p1)] : List Value).toArray s 0 0 A = Q
  suffices ST : ∀ (H : Heap) (locs : List Loc), va_P (dC, dI) vwCl (mG ad ca g a) H → va_S A s.heap H locs → W p l e ({ frames := 1, cells := 0, slots := 0, locals := 22 }) s m ([.ref (ad 0), .int (iI p1)] : List Value).toArray below meth c H locs 0 0 Q (F0 m 0 ls []) from ST _ _ hP hS
  clear hP hS
  intro H locs hP hS
  have b78_0 : 0 ≤ g 78 ∧ g 78 ≤ 30 := hI.1 78
  refine lv_iload_n hx hb dX13_steal_0 rfl (lv_at hl 1 rfl) ?_
  refine lv_iconst (v := iI 0) hx hb dX13_steal_1 rfl ?_
  refine lv_sipush (v := iI 999) hx hb dX13_steal_2 rfl ?_
  refine jc_i (va_runS (As := [.int (iI p1), .int (iI 0), .int (iI 999)]) (rest := []) ⟨hx, hb, hml, hown, hts⟩ (sX13_in l dC dI _ p1 0 999 (by omega) (by omega) (by omega)) (va_cwS 3 hts (jgoodS m_220 m_364 m_503 m_147) rfl rfl rfl (by decide +kernel) ⟨(Nat.le_of_ble_eq_true rfl), (Nat.le_of_ble_eq_true rfl)⟩) ⟨jw_blind0, fun U hU hW => ⟨rfl, congrArg Array.size hU⟩⟩ rfl rfl hl.1 rfl (lv_room (Nat.le_of_ble_eq_true rfl)) dX13_steal_5 ⟨(Nat.le_of_ble_eq_true rfl), (Nat.le_of_ble_eq_true rfl)⟩) hP hS hA (fun r_1 H locs w_2 hP hS => ?_)
  obtain ⟨z_3, rfl, h_4, h_5⟩ := w_2
  refine xr_if_eq (tgt := 20) hx hb dX13_steal_8 (by decide) (by omega) (fun h_6 => ?_) (fun h_6 => ?_)
  · refine lv_iconst (v := iI (-1)) hx hb dX13_steal_20 rfl ?_
    rw [← hQ]
    exact W.iret (v := iI (-1)) hx hb hr (fun t ht hW => ⟨⟨iI (-1), (g, a), rfl, ⟨(-1), rfl, hI, hfA, haA, by omega, by show ((-1) = -1 ∧ g 78 = g 78 ∧ (p1 < 0 ∨ 999 < p1 ∨ g 78 = 30)) ∨ ((-1) = g 78 + 1 ∧ g 78 = g 78 + 1 ∧ 0 ≤ p1 ∧ p1 ≤ 999 ∧ g 78 ≠ 30); omega⟩, by rw [ht]; exact hP, va_K.moved hW.alike hK, hD⟩, hS.F ht⟩) hS.2.2 dX13_steal_21
  · refine lv_aload_n hx hb dX13_steal_11 rfl (lv_at hl 0 rfl) ?_
    refine gf_stolen hx hb hj hown hK hP hI dX13_steal_12 (fun h_7 => ?_)
    refine lv_bipush (v := iI 30) hx hb dX13_steal_15 rfl ?_
    refine xr_icmp_ne (tgt := 22) hx hb dX13_steal_17 (by decide) (by omega) (by omega) (fun h_8 => ?_) (fun h_8 => ?_)
    · refine lv_aload_n hx hb dX13_steal_22 rfl (lv_at hl 0 rfl) ?_
      refine gf_stole hx hb hj hown hK hP dX13_steal_23 ?_
      refine lv_aload_n hx hb dX13_steal_26 rfl (lv_at hl 0 rfl) ?_
      refine gf_stolen hx hb hj hown hK hP hI dX13_steal_27 (fun h_9 => ?_)
      refine lv_iload_n hx hb dX13_steal_30 rfl (lv_at hl 1 rfl) ?_
      refine st_stole hx hb hK hP hD hS hI (by omega) (by omega) (by omega) (by omega) dX13_steal_31 (fun a_10 H locs e_11 e_12 hI hP hD hS => ?_)
      have haA : ∀ j, j ∉ ([61] : List Nat) → a_10 j = a j := fun j h => (e_11 j (fun q => h (q ▸ (by decide : 61 ∈ ([61] : List Nat))))).trans (haA j h)
      refine lv_aload_n hx hb dX13_steal_32 rfl (lv_at hl 0 rfl) ?_
      refine lv_dup hx hb dX13_steal_33 rfl ?_
      refine gf_stolen hx hb hj hown hK hP hI dX13_steal_34 (fun h_13 => ?_)
      refine lv_iconst (v := iI 1) hx hb dX13_steal_37 rfl ?_
      refine xr_add hx hb dX13_steal_38 ?_
      refine pf_stolen hx hb hj hown hK hP hD hS hI (by omega) (by omega) dX13_steal_39 (fun g_14 H locs e_15 e_16 hI hP hD hS => ?_)
      have hfA : ∀ j, j ∉ ([78] : List Nat) → g_14 j = g j := fun j h => (e_15 j (fun q => h (q ▸ (by decide : 78 ∈ ([78] : List Nat))))).trans (hfA j h)
      refine lv_aload_n hx hb dX13_steal_42 rfl (lv_at hl 0 rfl) ?_
      refine gf_stolen hx hb hj hown hK hP hI dX13_steal_43 (fun h_17 => ?_)
      rw [← hQ]
      exact W.iret (v := iI (g_14 78)) hx hb hr (fun t ht hW => ⟨⟨iI (g_14 78), (g_14, a_10), rfl, ⟨g_14 78, rfl, hI, hfA, haA, by omega, by show ((g_14 78) = -1 ∧ g_14 78 = g 78 ∧ (p1 < 0 ∨ 999 < p1 ∨ g 78 = 30)) ∨ ((g_14 78) = g 78 + 1 ∧ g_14 78 = g 78 + 1 ∧ 0 ≤ p1 ∧ p1 ≤ 999 ∧ g 78 ≠ 30); omega⟩, by rw [ht]; exact hP, va_K.moved hW.alike hK, hD⟩, hS.F ht⟩) hS.2.2 dX13_steal_46
    · refine lv_iconst (v := iI (-1)) hx hb dX13_steal_20 rfl ?_
      rw [← hQ]
      exact W.iret (v := iI (-1)) hx hb hr (fun t ht hW => ⟨⟨iI (-1), (g, a), rfl, ⟨(-1), rfl, hI, hfA, haA, by omega, by show ((-1) = -1 ∧ g 78 = g 78 ∧ (p1 < 0 ∨ 999 < p1 ∨ g 78 = 30)) ∨ ((-1) = g 78 + 1 ∧ g 78 = g 78 + 1 ∧ 0 ≤ p1 ∧ p1 ≤ 999 ∧ g 78 ≠ 30); omega⟩, by rw [ht]; exact hP, va_K.moved hW.alike hK, hD⟩, hS.F ht⟩) hS.2.2 dX13_steal_21
set_option maxHeartbeats 2000000 in
set_option maxRecDepth 100000 in
theorem sX13_forget (l : Launch) (dC : Nat → ClassId) (dI : Nat → Nat → Nat) (sz : Nat) (ad : Nat → Nat) (ca : Nat → ClassId) (g : Nat → Int) (a : Nat → Int → Int) (hI : mI g a) : Met l yX13_forget (jk yX13_forget cX13_forget 2 (some .int)) ({ frames := 0, cells := 0, slots := 0, locals := 0 }) (va_Pc [.ref (ad 0)] (jw_P (dC, dI) (mG ad ca g a) (mT ca) sz)) (va_Qi (fun (r : Int32) (u : (Nat → Int) × (Nat → Int → Int)) => ∃ z : Int, r = iI z ∧ (mI u.1 u.2) ∧ (∀ j, j ∉ ([78] : List Nat) → u.1 j = g j) ∧ (∀ j, j ∉ ([] : List Nat) → u.2 j = a j) ∧ (rg z) ∧ (z = g 78 ∧ u.1 78 = 0)) (fun u t => va_P (dC, dI) vwCl (mG ad ca u.1 u.2) t.heap ∧ va_K (dC, dI) vwCl (mT ca) t ∧ va_D (va_A (mG ad ca g a) sz) (mG ad ca u.1 u.2)) (va_A (mG ad ca g a) sz)) 0 0 (va_A (mG ad ca g a) sz) := by
  refine Met.ofW (cc := cX13_forget) (maxL := 2) (ret := (some .int)) (by decide) rfl ?_
  intro p e s m args below meth c s₁ B hml hv
  obtain ⟨rfl, hsz, hP, hK, hD0⟩ := hv
  have hx := B.exec
  have hb := B.bytes
  have hr := B.returns
  have hts := atoms_spec (ws := (jk yX13_forget cX13_forget 2 (some .int))) B.pre
  have hj : ∀ w ∈ jw, w.before ([.ref (ad 0)] : List Value).toArray s = true := fun w h => hts w (jm h)
  have hown : s.vm.findClass RX13 = some m.cls := findClass_of_methodNamed B.named
  subst hsz
  have hD := hD0.self (sz := s.heap.size)
  generalize hAe : (va_A (mG ad ca g a) s.heap.size) = A at hD ⊢
  have hA : ∀ q : Nat, s.heap.size ≤ q → A q := fun q h => by rw [← hAe]; exact Or.inr h
  have hS : va_S A s.heap s.heap [] := va_S.rf
  have hP : va_P (dC, dI) vwCl (mG ad ca g a) s.heap := hP
  have hfA : ∀ j, j ∉ ([78] : List Nat) → g j = g j := fun _ _ => rfl
  have haA : ∀ j, j ∉ ([] : List Nat) → a j = a j := fun _ _ => rfl
  have hl := lv_entry ([.ref (ad 0)]) (n := 2) (Nat.le_of_ble_eq_true rfl)
  rw [lg_entry_eq]
  generalize (lg_sl ([.ref (ad 0)]) ++ List.replicate (2 - (lg_sl ([.ref (ad 0)])).length) Slot.unset).toArray = ls at hl ⊢
  have hl : lv_has ls 2 [(0, .ref (ad 0))] := hl
  generalize hQ : MQ below (va_Qi (fun (r : Int32) (u : (Nat → Int) × (Nat → Int → Int)) => ∃ z : Int, r = iI z ∧ (mI u.1 u.2) ∧ (∀ j, j ∉ ([78] : List Nat) → u.1 j = g j) ∧ (∀ j, j ∉ ([] : List Nat) → u.2 j = a j) ∧ (rg z) ∧ (z = g 78 ∧ u.1 78 = 0)) (fun u t => va_P (dC, dI) vwCl (mG ad ca u.1 u.2) t.heap ∧ va_K (dC, dI) vwCl (mT ca) t ∧ va_D A (mG ad ca u.1 u.2)) A) ([.ref (ad 0)] : List Value).toArray s 0 0 A = Q
  suffices ST : ∀ (H : Heap) (locs : List Loc), va_P (dC, dI) vwCl (mG ad ca g a) H → va_S A s.heap H locs → W p l e ({ frames := 0, cells := 0, slots := 0, locals := 0 }) s m ([.ref (ad 0)] : List Value).toArray below meth c H locs 0 0 Q (F0 m 0 ls []) from ST _ _ hP hS
  clear hP hS
  intro H locs hP hS
  have b78_0 : 0 ≤ g 78 ∧ g 78 ≤ 30 := hI.1 78
  refine lv_aload_n hx hb dX13_forget_0 rfl (lv_at hl 0 rfl) ?_
  refine gf_stolen hx hb hj hown hK hP hI dX13_forget_1 (fun h_1 => ?_)
  refine lv_istore_n (lv' := [(1, .int (iI (g 78))), (0, .ref (ad 0))]) hx hb dX13_forget_4 rfl hl (by decide) rfl (fun ls hl => ?_)
  refine lv_aload_n hx hb dX13_forget_5 rfl (lv_at hl 1 rfl) ?_
  refine lv_iconst (v := iI 0) hx hb dX13_forget_6 rfl ?_
  refine pf_stolen hx hb hj hown hK hP hD hS hI (by omega) (by omega) dX13_forget_7 (fun g_2 H locs e_3 e_4 hI hP hD hS => ?_)
  have hfA : ∀ j, j ∉ ([78] : List Nat) → g_2 j = g j := fun j h => (e_3 j (fun q => h (q ▸ (by decide : 78 ∈ ([78] : List Nat))))).trans (hfA j h)
  refine lv_iload_n hx hb dX13_forget_10 rfl (lv_at hl 0 rfl) ?_
  rw [← hQ]
  exact W.iret (v := iI (g 78)) hx hb hr (fun t ht hW => ⟨⟨iI (g 78), (g_2, a), rfl, ⟨g 78, rfl, hI, hfA, haA, by omega, by show (g 78) = g 78 ∧ g_2 78 = 0; omega⟩, by rw [ht]; exact hP, va_K.moved hW.alike hK, hD⟩, hS.F ht⟩) hS.2.2 dX13_forget_11
set_option maxHeartbeats 2000000 in
set_option maxRecDepth 100000 in
theorem sX13_hand (l : Launch) (dC : Nat → ClassId) (dI : Nat → Nat → Nat) (sz : Nat) (ad : Nat → Nat) (ca : Nat → ClassId) (g : Nat → Int) (a : Nat → Int → Int) (p1 : Int) (p2 : Int) (p3 : Int) (hI : mI g a) (q1 : rg p1) (q2 : rg p2) (q3 : rg p3) (hrSkill : rSkill g a) : Met l yX13_hand (jk yX13_hand cX13_hand 4 (some .int)) ({ frames := 1, cells := 0, slots := 0, locals := 22 }) (va_Pc [.ref (ad 0), .int (iI p1), .int (iI p2), .int (iI p3)] (jw_P (dC, dI) (mG ad ca g a) (mT ca) sz)) (va_Qi (fun (r : Int32) (u : (Nat → Int) × (Nat → Int → Int)) => ∃ z : Int, r = iI z ∧ (mI u.1 u.2) ∧ (∀ j, j ∉ ([50] : List Nat) → u.1 j = g j) ∧ (∀ j, j ∉ ([37, 38, 39] : List Nat) → u.2 j = a j) ∧ (rg z) ∧ (rSkill u.1 u.2) ∧ ((z = -1 ∧ u.1 50 = g 50 ∧ ((p1 < 1 ∨ 255 < p1 ∨ p2 < 1 ∨ 20 < p2 ∨ p3 < (-40000) ∨ 0 < p3) ∨ g 50 = 12)) ∨ (z = g 50 ∧ u.1 50 = g 50 + 1 ∧ 1 ≤ p1 ∧ p1 ≤ 255 ∧ 1 ≤ p2 ∧ p2 ≤ 20 ∧ (-40000) ≤ p3 ∧ p3 ≤ 0 ∧ g 50 ≠ 12))) (fun u t => va_P (dC, dI) vwCl (mG ad ca u.1 u.2) t.heap ∧ va_K (dC, dI) vwCl (mT ca) t ∧ va_D (va_A (mG ad ca g a) sz) (mG ad ca u.1 u.2)) (va_A (mG ad ca g a) sz)) 0 0 (va_A (mG ad ca g a) sz) := by
  refine Met.ofW (cc := cX13_hand) (maxL := 4) (ret := (some .int)) (by decide) rfl ?_
  intro p e s m args below meth c s₁ B hml hv
  obtain ⟨rfl, hsz, hP, hK, hD0⟩ := hv
  have hx := B.exec
  have hb := B.bytes
  have hr := B.returns
  have hts := atoms_spec (ws := (jk yX13_hand cX13_hand 4 (some .int))) B.pre
  have hj : ∀ w ∈ jw, w.before ([.ref (ad 0), .int (iI p1), .int (iI p2), .int (iI p3)] : List Value).toArray s = true := fun w h => hts w (jm h)
  have hown : s.vm.findClass RX13 = some m.cls := findClass_of_methodNamed B.named
  subst hsz
  have hD := hD0.self (sz := s.heap.size)
  generalize hAe : (va_A (mG ad ca g a) s.heap.size) = A at hD ⊢
  have hA : ∀ q : Nat, s.heap.size ≤ q → A q := fun q h => by rw [← hAe]; exact Or.inr h
  have hS : va_S A s.heap s.heap [] := va_S.rf
  have hP : va_P (dC, dI) vwCl (mG ad ca g a) s.heap := hP
  have hfA : ∀ j, j ∉ ([50] : List Nat) → g j = g j := fun _ _ => rfl
  have haA : ∀ j, j ∉ ([37, 38, 39] : List Nat) → a j = a j := fun _ _ => rfl
  have hl := lv_entry ([.ref (ad 0), .int (iI p1), .int (iI p2), .int (iI p3)]) (n := 4) (Nat.le_of_ble_eq_true rfl)
  rw [lg_entry_eq]
  generalize (lg_sl ([.ref (ad 0), .int (iI p1), .int (iI p2), .int (iI p3)]) ++ List.replicate (4 - (lg_sl ([.ref (ad 0), .int (iI p1), .int (iI p2), .int (iI p3)])).length) Slot.unset).toArray = ls at hl ⊢
  have hl : lv_has ls 4 [(0, .ref (ad 0)), (1, .int (iI p1)), (2, .int (iI p2)), (3, .int (iI p3))] := hl
  generalize hQ : MQ below (va_Qi (fun (r : Int32) (u : (Nat → Int) × (Nat → Int → Int)) => ∃ z : Int, r = iI z ∧ (mI u.1 u.2) ∧ (∀ j, j ∉ ([50] : List Nat) → u.1 j = g j) ∧ (∀ j, j ∉ ([37, 38, 39] : List Nat) → u.2 j = a j) ∧ (rg z) ∧ (rSkill u.1 u.2) ∧ ((z = -1 ∧ u.1 50 = g 50 ∧ ((p1 < 1 ∨ 255 < p1 ∨ p2 < 1 ∨ 20 < p2 ∨ p3 < (-40000) ∨ 0 < p3) ∨ g 50 = 12)) ∨ (z = g 50 ∧ u.1 50 = g 50 + 1 ∧ 1 ≤ p1 ∧ p1 ≤ 255 ∧ 1 ≤ p2 ∧ p2 ≤ 20 ∧ (-40000) ≤ p3 ∧ p3 ≤ 0 ∧ g 50 ≠ 12))) (fun u t => va_P (dC, dI) vwCl (mG ad ca u.1 u.2) t.heap ∧ va_K (dC, dI) vwCl (mT ca) t ∧ va_D A (mG ad ca u.1 u.2)) A) ([.ref (ad 0), .int (iI p1), .int (iI p2), .int (iI p3)] : List Value).toArray s 0 0 A = Q
  suffices ST : ∀ (H : Heap) (locs : List Loc), va_P (dC, dI) vwCl (mG ad ca g a) H → va_S A s.heap H locs → W p l e ({ frames := 1, cells := 0, slots := 0, locals := 22 }) s m ([.ref (ad 0), .int (iI p1), .int (iI p2), .int (iI p3)] : List Value).toArray below meth c H locs 0 0 Q (F0 m 0 ls []) from ST _ _ hP hS
  clear hP hS
  intro H locs hP hS
  have b50_0 : 0 ≤ g 50 ∧ g 50 ≤ 12 := hI.1 50
  refine lv_iload_n hx hb dX13_hand_0 rfl (lv_at hl 1 rfl) ?_
  refine lv_iconst (v := iI 1) hx hb dX13_hand_1 rfl ?_
  refine lv_sipush (v := iI 255) hx hb dX13_hand_2 rfl ?_
  refine jc_i (va_runS (As := [.int (iI p1), .int (iI 1), .int (iI 255)]) (rest := []) ⟨hx, hb, hml, hown, hts⟩ (sX13_in l dC dI _ p1 1 255 (by omega) (by omega) (by omega)) (va_cwS 3 hts (jgoodS m_220 m_364 m_503 m_147) rfl rfl rfl (by decide +kernel) ⟨(Nat.le_of_ble_eq_true rfl), (Nat.le_of_ble_eq_true rfl)⟩) ⟨jw_blind0, fun U hU hW => ⟨rfl, congrArg Array.size hU⟩⟩ rfl rfl hl.1 rfl (lv_room (Nat.le_of_ble_eq_true rfl)) dX13_hand_5 ⟨(Nat.le_of_ble_eq_true rfl), (Nat.le_of_ble_eq_true rfl)⟩) hP hS hA (fun r_1 H locs w_2 hP hS => ?_)
  obtain ⟨z_3, rfl, h_4, h_5⟩ := w_2
  refine xr_if_eq (tgt := 41) hx hb dX13_hand_8 (by decide) (by omega) (fun h_6 => ?_) (fun h_6 => ?_)
  · refine lv_iconst (v := iI (-1)) hx hb dX13_hand_41 rfl ?_
    rw [← hQ]
    exact W.iret (v := iI (-1)) hx hb hr (fun t ht hW => ⟨⟨iI (-1), (g, a), rfl, ⟨(-1), rfl, hI, hfA, haA, by omega, by show rSkill g a; first | exact rSkill_t (by omega) rfl hrSkill | exact rSkill_new hrSkill (by omega) rfl (by omega), by show ((-1) = -1 ∧ g 50 = g 50 ∧ ((p1 < 1 ∨ 255 < p1 ∨ p2 < 1 ∨ 20 < p2 ∨ p3 < (-40000) ∨ 0 < p3) ∨ g 50 = 12)) ∨ ((-1) = g 50 ∧ g 50 = g 50 + 1 ∧ 1 ≤ p1 ∧ p1 ≤ 255 ∧ 1 ≤ p2 ∧ p2 ≤ 20 ∧ (-40000) ≤ p3 ∧ p3 ≤ 0 ∧ g 50 ≠ 12); omega⟩, by rw [ht]; exact hP, va_K.moved hW.alike hK, hD⟩, hS.F ht⟩) hS.2.2 dX13_hand_42
  · refine lv_iload_n hx hb dX13_hand_11 rfl (lv_at hl 2 rfl) ?_
    refine lv_iconst (v := iI 1) hx hb dX13_hand_12 rfl ?_
    refine lv_bipush (v := iI 20) hx hb dX13_hand_13 rfl ?_
    refine jc_i (va_runS (As := [.int (iI p2), .int (iI 1), .int (iI 20)]) (rest := []) ⟨hx, hb, hml, hown, hts⟩ (sX13_in l dC dI _ p2 1 20 (by omega) (by omega) (by omega)) (va_cwS 3 hts (jgoodS m_220 m_364 m_503 m_147) rfl rfl rfl (by decide +kernel) ⟨(Nat.le_of_ble_eq_true rfl), (Nat.le_of_ble_eq_true rfl)⟩) ⟨jw_blind0, fun U hU hW => ⟨rfl, congrArg Array.size hU⟩⟩ rfl rfl hl.1 rfl (lv_room (Nat.le_of_ble_eq_true rfl)) dX13_hand_15 ⟨(Nat.le_of_ble_eq_true rfl), (Nat.le_of_ble_eq_true rfl)⟩) hP hS hA (fun r_7 H locs w_8 hP hS => ?_)
    obtain ⟨z_9, rfl, h_10, h_11⟩ := w_8
    refine xr_if_eq (tgt := 41) hx hb dX13_hand_18 (by decide) (by omega) (fun h_12 => ?_) (fun h_12 => ?_)
    · refine lv_iconst (v := iI (-1)) hx hb dX13_hand_41 rfl ?_
      rw [← hQ]
      exact W.iret (v := iI (-1)) hx hb hr (fun t ht hW => ⟨⟨iI (-1), (g, a), rfl, ⟨(-1), rfl, hI, hfA, haA, by omega, by show rSkill g a; first | exact rSkill_t (by omega) rfl hrSkill | exact rSkill_new hrSkill (by omega) rfl (by omega), by show ((-1) = -1 ∧ g 50 = g 50 ∧ ((p1 < 1 ∨ 255 < p1 ∨ p2 < 1 ∨ 20 < p2 ∨ p3 < (-40000) ∨ 0 < p3) ∨ g 50 = 12)) ∨ ((-1) = g 50 ∧ g 50 = g 50 + 1 ∧ 1 ≤ p1 ∧ p1 ≤ 255 ∧ 1 ≤ p2 ∧ p2 ≤ 20 ∧ (-40000) ≤ p3 ∧ p3 ≤ 0 ∧ g 50 ≠ 12); omega⟩, by rw [ht]; exact hP, va_K.moved hW.alike hK, hD⟩, hS.F ht⟩) hS.2.2 dX13_hand_42
    · refine lv_iload_n hx hb dX13_hand_21 rfl (lv_at hl 3 rfl) ?_
      refine lv_ldcw hx hb hown (hts (.constant RX13 448 (-40000)) (jm m_507)) dX13_hand_22 ?_
      refine jt_i (iI (-40000)) (by decide) ?_
      refine lv_iconst (v := iI 0) hx hb dX13_hand_25 rfl ?_
      refine jc_i (va_runS (As := [.int (iI p3), .int (iI (-40000)), .int (iI 0)]) (rest := []) ⟨hx, hb, hml, hown, hts⟩ (sX13_in l dC dI _ p3 (-40000) 0 (by omega) (by omega) (by omega)) (va_cwS 3 hts (jgoodS m_220 m_364 m_503 m_147) rfl rfl rfl (by decide +kernel) ⟨(Nat.le_of_ble_eq_true rfl), (Nat.le_of_ble_eq_true rfl)⟩) ⟨jw_blind0, fun U hU hW => ⟨rfl, congrArg Array.size hU⟩⟩ rfl rfl hl.1 rfl (lv_room (Nat.le_of_ble_eq_true rfl)) dX13_hand_26 ⟨(Nat.le_of_ble_eq_true rfl), (Nat.le_of_ble_eq_true rfl)⟩) hP hS hA (fun r_13 H locs w_14 hP hS => ?_)
      obtain ⟨z_15, rfl, h_16, h_17⟩ := w_14
      refine xr_if_eq (tgt := 41) hx hb dX13_hand_29 (by decide) (by omega) (fun h_18 => ?_) (fun h_18 => ?_)
      · refine lv_iconst (v := iI (-1)) hx hb dX13_hand_41 rfl ?_
        rw [← hQ]
        exact W.iret (v := iI (-1)) hx hb hr (fun t ht hW => ⟨⟨iI (-1), (g, a), rfl, ⟨(-1), rfl, hI, hfA, haA, by omega, by show rSkill g a; first | exact rSkill_t (by omega) rfl hrSkill | exact rSkill_new hrSkill (by omega) rfl (by omega), by show ((-1) = -1 ∧ g 50 = g 50 ∧ ((p1 < 1 ∨ 255 < p1 ∨ p2 < 1 ∨ 20 < p2 ∨ p3 < (-40000) ∨ 0 < p3) ∨ g 50 = 12)) ∨ ((-1) = g 50 ∧ g 50 = g 50 + 1 ∧ 1 ≤ p1 ∧ p1 ≤ 255 ∧ 1 ≤ p2 ∧ p2 ≤ 20 ∧ (-40000) ≤ p3 ∧ p3 ≤ 0 ∧ g 50 ≠ 12); omega⟩, by rw [ht]; exact hP, va_K.moved hW.alike hK, hD⟩, hS.F ht⟩) hS.2.2 dX13_hand_42
      · refine lv_aload_n hx hb dX13_hand_32 rfl (lv_at hl 0 rfl) ?_
        refine gf_hands hx hb hj hown hK hP hI dX13_hand_33 (fun h_19 => ?_)
        refine lv_bipush (v := iI 12) hx hb dX13_hand_36 rfl ?_
        refine xr_icmp_ne (tgt := 43) hx hb dX13_hand_38 (by decide) (by omega) (by omega) (fun h_20 => ?_) (fun h_20 => ?_)
        · refine lv_aload_n hx hb dX13_hand_43 rfl (lv_at hl 0 rfl) ?_
          refine gf_fields hx hb hj hown hK hP dX13_hand_44 ?_
          refine lv_aload_n hx hb dX13_hand_47 rfl (lv_at hl 0 rfl) ?_
          refine gf_hands hx hb hj hown hK hP hI dX13_hand_48 (fun h_21 => ?_)
          refine lv_iload_n hx hb dX13_hand_51 rfl (lv_at hl 1 rfl) ?_
          refine sa_fields hx hb hK hP hD hS hI (by omega) (by omega) dX13_hand_52 (fun a_22 z_25 H locs h_26 h_27 e_23 e_24 hI hP hD hS => ?_)
          have haA : ∀ j, j ∉ ([37, 38, 39] : List Nat) → a_22 j = a j := fun j h => (e_23 j (fun q => h (q ▸ (by decide : 37 ∈ ([37, 38, 39] : List Nat))))).trans (haA j h)
          have t_28 : a_22 38 = a 38 := (e_23 38 (by decide)).trans rfl
          refine lv_aload_n hx hb dX13_hand_53 rfl (lv_at hl 0 rfl) ?_
          refine gf_skill hx hb hj hown hK hP dX13_hand_54 ?_
          refine lv_aload_n hx hb dX13_hand_57 rfl (lv_at hl 0 rfl) ?_
          refine gf_hands hx hb hj hown hK hP hI dX13_hand_58 (fun h_29 => ?_)
          refine lv_iload_n hx hb dX13_hand_61 rfl (lv_at hl 2 rfl) ?_
          refine st_skill hx hb hK hP hD hS hI (by omega) (by omega) (by omega) (by omega) dX13_hand_62 (fun a_30 H locs e_31 e_32 hI hP hD hS => ?_)
          have haA : ∀ j, j ∉ ([37, 38, 39] : List Nat) → a_30 j = a j := fun j h => (e_31 j (fun q => h (q ▸ (by decide : 38 ∈ ([37, 38, 39] : List Nat))))).trans (haA j h)
          have t_33 : a_30 38 = up (a 38) (g 50) p2 := e_32.trans (up_c t_28 (by omega) (by omega))
          refine lv_aload_n hx hb dX13_hand_63 rfl (lv_at hl 0 rfl) ?_
          refine gf_born hx hb hj hown hK hP dX13_hand_64 ?_
          refine lv_aload_n hx hb dX13_hand_67 rfl (lv_at hl 0 rfl) ?_
          refine gf_hands hx hb hj hown hK hP hI dX13_hand_68 (fun h_34 => ?_)
          refine lv_iload_n hx hb dX13_hand_71 rfl (lv_at hl 3 rfl) ?_
          refine st_born hx hb hK hP hD hS hI (by omega) (by omega) (by omega) (by omega) dX13_hand_72 (fun a_35 H locs e_36 e_37 hI hP hD hS => ?_)
          have haA : ∀ j, j ∉ ([37, 38, 39] : List Nat) → a_35 j = a j := fun j h => (e_36 j (fun q => h (q ▸ (by decide : 39 ∈ ([37, 38, 39] : List Nat))))).trans (haA j h)
          have t_38 : a_35 38 = up (a 38) (g 50) p2 := (e_36 38 (by decide)).trans t_33
          refine lv_aload_n hx hb dX13_hand_73 rfl (lv_at hl 0 rfl) ?_
          refine lv_dup hx hb dX13_hand_74 rfl ?_
          refine gf_hands hx hb hj hown hK hP hI dX13_hand_75 (fun h_39 => ?_)
          refine lv_iconst (v := iI 1) hx hb dX13_hand_78 rfl ?_
          refine xr_add hx hb dX13_hand_79 ?_
          refine pf_hands hx hb hj hown hK hP hD hS hI (by omega) (by omega) dX13_hand_80 (fun g_40 H locs e_41 e_42 hI hP hD hS => ?_)
          have hfA : ∀ j, j ∉ ([50] : List Nat) → g_40 j = g j := fun j h => (e_41 j (fun q => h (q ▸ (by decide : 50 ∈ ([50] : List Nat))))).trans (hfA j h)
          refine lv_aload_n hx hb dX13_hand_83 rfl (lv_at hl 0 rfl) ?_
          refine gf_hands hx hb hj hown hK hP hI dX13_hand_84 (fun h_43 => ?_)
          refine lv_iconst (v := iI 1) hx hb dX13_hand_87 rfl ?_
          refine xr_sub hx hb dX13_hand_88 ?_
          rw [← hQ]
          exact W.iret (v := iI ((g_40 50) - 1)) hx hb hr (fun t ht hW => ⟨⟨iI ((g_40 50) - 1), (g_40, a_35), rfl, ⟨(g_40 50) - 1, rfl, hI, hfA, haA, by omega, by show rSkill g_40 a_35; first | exact rSkill_t (by omega) t_38 hrSkill | exact rSkill_new hrSkill (by omega) t_38 (by omega), by show (((g_40 50) - 1) = -1 ∧ g_40 50 = g 50 ∧ ((p1 < 1 ∨ 255 < p1 ∨ p2 < 1 ∨ 20 < p2 ∨ p3 < (-40000) ∨ 0 < p3) ∨ g 50 = 12)) ∨ (((g_40 50) - 1) = g 50 ∧ g_40 50 = g 50 + 1 ∧ 1 ≤ p1 ∧ p1 ≤ 255 ∧ 1 ≤ p2 ∧ p2 ≤ 20 ∧ (-40000) ≤ p3 ∧ p3 ≤ 0 ∧ g 50 ≠ 12); omega⟩, by rw [ht]; exact hP, va_K.moved hW.alike hK, hD⟩, hS.F ht⟩) hS.2.2 dX13_hand_89
        · refine lv_iconst (v := iI (-1)) hx hb dX13_hand_41 rfl ?_
          rw [← hQ]
          exact W.iret (v := iI (-1)) hx hb hr (fun t ht hW => ⟨⟨iI (-1), (g, a), rfl, ⟨(-1), rfl, hI, hfA, haA, by omega, by show rSkill g a; first | exact rSkill_t (by omega) rfl hrSkill | exact rSkill_new hrSkill (by omega) rfl (by omega), by show ((-1) = -1 ∧ g 50 = g 50 ∧ ((p1 < 1 ∨ 255 < p1 ∨ p2 < 1 ∨ 20 < p2 ∨ p3 < (-40000) ∨ 0 < p3) ∨ g 50 = 12)) ∨ ((-1) = g 50 ∧ g 50 = g 50 + 1 ∧ 1 ≤ p1 ∧ p1 ≤ 255 ∧ 1 ≤ p2 ∧ p2 ≤ 20 ∧ (-40000) ≤ p3 ∧ p3 ≤ 0 ∧ g 50 ≠ 12); omega⟩, by rw [ht]; exact hP, va_K.moved hW.alike hK, hD⟩, hS.F ht⟩) hS.2.2 dX13_hand_42
