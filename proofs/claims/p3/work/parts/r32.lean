set_option maxHeartbeats 2000000 in
set_option maxRecDepth 100000 in
theorem sX13_giving (l : Launch) (dC : Nat → ClassId) (dI : Nat → Nat → Nat) (sz : Nat) (ad : Nat → Nat) (ca : Nat → ClassId) (g : Nat → Int) (a : Nat → Int → Int) (p1 : Int) (p2 : Int) (p3 : Int) (hI : mI g a) (q1 : rg p1) (q2 : rg p2) (q3 : rg p3) (hrSkill : rSkill g a) (hrSh : rSh g a) : Met l yX13_giving (jk yX13_giving cX13_giving 4 (some .int)) ({ frames := 10, cells := 0, slots := 0, locals := 244 }) (va_Pc [.ref (ad 0), .int (iI p1), .int (iI p2), .int (iI p3)] (jw_P (dC, dI) (mG ad ca g a) (mT ca) sz)) (va_Qi (fun (r : Int32) (u : (Nat → Int) × (Nat → Int → Int)) => ∃ z : Int, r = iI z ∧ (mI u.1 u.2) ∧ (∀ j, j ∉ ([96, 97, 98, 99, 100] : List Nat) → u.1 j = g j) ∧ (∀ j, j ∉ ([62, 63, 64, 71, 72, 73, 74, 75] : List Nat) → u.2 j = a j) ∧ (rg z)) (fun u t => va_P (dC, dI) vwCl (mG ad ca u.1 u.2) t.heap ∧ va_K (dC, dI) vwCl (mT ca) t ∧ va_D (va_A (mG ad ca g a) sz) (mG ad ca u.1 u.2)) (va_A (mG ad ca g a) sz)) 0 0 (va_A (mG ad ca g a) sz) := by
  refine Met.ofW (cc := cX13_giving) (maxL := 4) (ret := (some .int)) (by decide) rfl ?_
  intro p e s m args below meth c s₁ B hml hv
  obtain ⟨rfl, hsz, hP, hK, hD0⟩ := hv
  have hx := B.exec
  have hb := B.bytes
  have hr := B.returns
  have hts := atoms_spec (ws := (jk yX13_giving cX13_giving 4 (some .int))) B.pre
  have hj : ∀ w ∈ jw, w.before ([.ref (ad 0), .int (iI p1), .int (iI p2), .int (iI p3)] : List Value).toArray s = true := fun w h => hts w (jm h)
  have hown : s.vm.findClass RX13 = some m.cls := findClass_of_methodNamed B.named
  subst hsz
  have hD := hD0.self (sz := s.heap.size)
  generalize hAe : (va_A (mG ad ca g a) s.heap.size) = A at hD ⊢
  have hA : ∀ q : Nat, s.heap.size ≤ q → A q := fun q h => by rw [← hAe]; exact Or.inr h
  have hS : va_S A s.heap s.heap [] := va_S.rf
  have hP : va_P (dC, dI) vwCl (mG ad ca g a) s.heap := hP
  have hfA : ∀ j, j ∉ ([96, 97, 98, 99, 100] : List Nat) → g j = g j := fun _ _ => rfl
  have haA : ∀ j, j ∉ ([62, 63, 64, 71, 72, 73, 74, 75] : List Nat) → a j = a j := fun _ _ => rfl
  have hl := lv_entry ([.ref (ad 0), .int (iI p1), .int (iI p2), .int (iI p3)]) (n := 4) (Nat.le_of_ble_eq_true rfl)
  rw [lg_entry_eq]
  generalize (lg_sl ([.ref (ad 0), .int (iI p1), .int (iI p2), .int (iI p3)]) ++ List.replicate (4 - (lg_sl ([.ref (ad 0), .int (iI p1), .int (iI p2), .int (iI p3)])).length) Slot.unset).toArray = ls at hl ⊢
  have hl : lv_has ls 4 [(0, .ref (ad 0)), (1, .int (iI p1)), (2, .int (iI p2)), (3, .int (iI p3))] := hl
  generalize hQ : MQ below (va_Qi (fun (r : Int32) (u : (Nat → Int) × (Nat → Int → Int)) => ∃ z : Int, r = iI z ∧ (mI u.1 u.2) ∧ (∀ j, j ∉ ([96, 97, 98, 99, 100] : List Nat) → u.1 j = g j) ∧ (∀ j, j ∉ ([62, 63, 64, 71, 72, 73, 74, 75] : List Nat) → u.2 j = a j) ∧ (rg z)) (fun u t => va_P (dC, dI) vwCl (mG ad ca u.1 u.2) t.heap ∧ va_K (dC, dI) vwCl (mT ca) t ∧ va_D A (mG ad ca u.1 u.2)) A) ([.ref (ad 0), .int (iI p1), .int (iI p2), .int (iI p3)] : List Value).toArray s 0 0 A = Q
  suffices ST : ∀ (H : Heap) (locs : List Loc), va_P (dC, dI) vwCl (mG ad ca g a) H → va_S A s.heap H locs → W p l e ({ frames := 10, cells := 0, slots := 0, locals := 244 }) s m ([.ref (ad 0), .int (iI p1), .int (iI p2), .int (iI p3)] : List Value).toArray below meth c H locs 0 0 Q (F0 m 0 ls []) from ST _ _ hP hS
  clear hP hS
  intro H locs hP hS
  refine lv_aload_n hx hb dX13_giving_0 rfl (lv_at hl 0 rfl) ?_
  refine lv_iload_n hx hb dX13_giving_1 rfl (lv_at hl 1 rfl) ?_
  refine lv_iload_n hx hb dX13_giving_2 rfl (lv_at hl 2 rfl) ?_
  refine lv_iload_n hx hb dX13_giving_3 rfl (lv_at hl 3 rfl) ?_
  refine jcg_i (va_runV (As := [.int (iI p1), .int (iI p2), .int (iI p3)]) (rest := []) ⟨hx, hb, hml, hown, hts⟩ (sX13_gives l dC dI _ ad ca g a p1 p2 p3 hI (by omega) (by omega) (by omega) hrSkill hrSh) (cwV 3 hts (jgoodV m_282 m_350 m_351 m_503 m_140) rfl rfl rfl (by decide +kernel) ⟨(Nat.le_of_ble_eq_true rfl), (Nat.le_of_ble_eq_true rfl)⟩) ⟨jw_blind, va_recv hK hP (ci := 13) (q0 := 0) rfl rfl, fun U hU hW => ⟨rfl, jw_of hU hW hP hK hD⟩⟩ rfl rfl hl.1 rfl (lv_room (Nat.le_of_ble_eq_true rfl)) dX13_giving_4 ⟨(Nat.le_of_ble_eq_true rfl), (Nat.le_of_ble_eq_true rfl)⟩) hD hS hA (fun r_1 u_7 H locs w_2 hP hK hD hS => ?_)
  obtain ⟨g_5, a_6⟩ := u_7
  obtain ⟨z_3, rfl, hI, hfr_8, hfr_9, h_4⟩ := w_2
  have hP : va_P (dC, dI) vwCl (mG ad ca g_5 a_6) H := hP
  have hD : va_D A (mG ad ca g_5 a_6) := hD
  have hfA : ∀ j, j ∉ ([96, 97, 98, 99, 100] : List Nat) → g_5 j = g j := fun j h => (hfr_8 j (fun q => h (by first | exact q | (simp only [List.mem_cons, List.not_mem_nil, or_false] at q ⊢ <;> omega)))).trans (hfA j h)
  have haA : ∀ j, j ∉ ([62, 63, 64, 71, 72, 73, 74, 75] : List Nat) → a_6 j = a j := fun j h => (hfr_9 j (fun q => h (by first | exact q | (simp only [List.mem_cons, List.not_mem_nil, or_false] at q ⊢ <;> omega)))).trans (haA j h)
  refine xr_if_eq (tgt := 17) hx hb dX13_giving_7 (by decide) (by omega) (fun h_11 => ?_) (fun h_11 => ?_)
  · refine lv_iconst (v := iI (-1)) hx hb dX13_giving_17 rfl ?_
    rw [← hQ]
    exact W.iret (v := iI (-1)) hx hb hr (fun t ht hW => ⟨⟨iI (-1), (g_5, a_6), rfl, ⟨(-1), rfl, hI, hfA, haA, by omega⟩, by rw [ht]; exact hP, va_K.moved hW.alike hK, hD⟩, hS.F ht⟩) hS.2.2 dX13_giving_18
  · refine lv_aload_n hx hb dX13_giving_10 rfl (lv_at hl 0 rfl) ?_
    refine gf_bestMany hx hb hj hown hK hP hI dX13_giving_11 (fun h_12 => ?_)
    refine lv_goto (tgt := 18) hx hb dX13_giving_14 (by decide) ?_
    rw [← hQ]
    exact W.iret (v := iI (g_5 99)) hx hb hr (fun t ht hW => ⟨⟨iI (g_5 99), (g_5, a_6), rfl, ⟨g_5 99, rfl, hI, hfA, haA, by omega⟩, by rw [ht]; exact hP, va_K.moved hW.alike hK, hD⟩, hS.F ht⟩) hS.2.2 dX13_giving_18
set_option maxHeartbeats 2000000 in
set_option maxRecDepth 100000 in
theorem sX13_given (l : Launch) (dC : Nat → ClassId) (dI : Nat → Nat → Nat) (sz : Nat) (ad : Nat → Nat) (ca : Nat → ClassId) (g : Nat → Int) (a : Nat → Int → Int) (p1 : Int) (p2 : Int) (p3 : Int) (p4 : Int) (hI : mI g a) (q1 : rg p1) (q2 : rg p2) (q3 : rg p3) (q4 : rg p4) (hrSkill : rSkill g a) (hrSh : rSh g a) : Met l yX13_given (jk yX13_given cX13_given 7 (some .int)) ({ frames := 10, cells := 0, slots := 0, locals := 244 }) (va_Pc [.ref (ad 0), .int (iI p1), .int (iI p2), .int (iI p3), .int (iI p4)] (jw_P (dC, dI) (mG ad ca g a) (mT ca) sz)) (va_Qi (fun (r : Int32) (u : (Nat → Int) × (Nat → Int → Int)) => ∃ z : Int, r = iI z ∧ (mI u.1 u.2) ∧ (∀ j, j ∉ ([96, 97, 98, 99, 100] : List Nat) → u.1 j = g j) ∧ (∀ j, j ∉ ([62, 63, 64, 71, 72, 73, 74, 75] : List Nat) → u.2 j = a j) ∧ (rg z)) (fun u t => va_P (dC, dI) vwCl (mG ad ca u.1 u.2) t.heap ∧ va_K (dC, dI) vwCl (mT ca) t ∧ va_D (va_A (mG ad ca g a) sz) (mG ad ca u.1 u.2)) (va_A (mG ad ca g a) sz)) 0 0 (va_A (mG ad ca g a) sz) := by
  refine Met.ofW (cc := cX13_given) (maxL := 7) (ret := (some .int)) (by decide) rfl ?_
  intro p e s m args below meth c s₁ B hml hv
  obtain ⟨rfl, hsz, hP, hK, hD0⟩ := hv
  have hx := B.exec
  have hb := B.bytes
  have hr := B.returns
  have hts := atoms_spec (ws := (jk yX13_given cX13_given 7 (some .int))) B.pre
  have hj : ∀ w ∈ jw, w.before ([.ref (ad 0), .int (iI p1), .int (iI p2), .int (iI p3), .int (iI p4)] : List Value).toArray s = true := fun w h => hts w (jm h)
  have hown : s.vm.findClass RX13 = some m.cls := findClass_of_methodNamed B.named
  subst hsz
  have hD := hD0.self (sz := s.heap.size)
  generalize hAe : (va_A (mG ad ca g a) s.heap.size) = A at hD ⊢
  have hA : ∀ q : Nat, s.heap.size ≤ q → A q := fun q h => by rw [← hAe]; exact Or.inr h
  have hS : va_S A s.heap s.heap [] := va_S.rf
  have hP : va_P (dC, dI) vwCl (mG ad ca g a) s.heap := hP
  have hfA : ∀ j, j ∉ ([96, 97, 98, 99, 100] : List Nat) → g j = g j := fun _ _ => rfl
  have haA : ∀ j, j ∉ ([62, 63, 64, 71, 72, 73, 74, 75] : List Nat) → a j = a j := fun _ _ => rfl
  have hl := lv_entry ([.ref (ad 0), .int (iI p1), .int (iI p2), .int (iI p3), .int (iI p4)]) (n := 7) (Nat.le_of_ble_eq_true rfl)
  rw [lg_entry_eq]
  generalize (lg_sl ([.ref (ad 0), .int (iI p1), .int (iI p2), .int (iI p3), .int (iI p4)]) ++ List.replicate (7 - (lg_sl ([.ref (ad 0), .int (iI p1), .int (iI p2), .int (iI p3), .int (iI p4)])).length) Slot.unset).toArray = ls at hl ⊢
  have hl : lv_has ls 7 [(0, .ref (ad 0)), (1, .int (iI p1)), (2, .int (iI p2)), (3, .int (iI p3)), (4, .int (iI p4))] := hl
  generalize hQ : MQ below (va_Qi (fun (r : Int32) (u : (Nat → Int) × (Nat → Int → Int)) => ∃ z : Int, r = iI z ∧ (mI u.1 u.2) ∧ (∀ j, j ∉ ([96, 97, 98, 99, 100] : List Nat) → u.1 j = g j) ∧ (∀ j, j ∉ ([62, 63, 64, 71, 72, 73, 74, 75] : List Nat) → u.2 j = a j) ∧ (rg z)) (fun u t => va_P (dC, dI) vwCl (mG ad ca u.1 u.2) t.heap ∧ va_K (dC, dI) vwCl (mT ca) t ∧ va_D A (mG ad ca u.1 u.2)) A) ([.ref (ad 0), .int (iI p1), .int (iI p2), .int (iI p3), .int (iI p4)] : List Value).toArray s 0 0 A = Q
  suffices ST : ∀ (H : Heap) (locs : List Loc), va_P (dC, dI) vwCl (mG ad ca g a) H → va_S A s.heap H locs → W p l e ({ frames := 10, cells := 0, slots := 0, locals := 244 }) s m ([.ref (ad 0), .int (iI p1), .int (iI p2), .int (iI p3), .int (iI p4)] : List Value).toArray below meth c H locs 0 0 Q (F0 m 0 ls []) from ST _ _ hP hS
  clear hP hS
  intro H locs hP hS
  refine lv_aload_n hx hb dX13_given_0 rfl (lv_at hl 0 rfl) ?_
  refine lv_iload_n hx hb dX13_given_1 rfl (lv_at hl 1 rfl) ?_
  refine lv_iload_n hx hb dX13_given_2 rfl (lv_at hl 2 rfl) ?_
  refine lv_iload_n hx hb dX13_given_3 rfl (lv_at hl 3 rfl) ?_
  refine jcg_i (va_runV (As := [.int (iI p1), .int (iI p2), .int (iI p3)]) (rest := []) ⟨hx, hb, hml, hown, hts⟩ (sX13_gives l dC dI _ ad ca g a p1 p2 p3 hI (by omega) (by omega) (by omega) hrSkill hrSh) (cwV 3 hts (jgoodV m_282 m_350 m_351 m_503 m_140) rfl rfl rfl (by decide +kernel) ⟨(Nat.le_of_ble_eq_true rfl), (Nat.le_of_ble_eq_true rfl)⟩) ⟨jw_blind, va_recv hK hP (ci := 13) (q0 := 0) rfl rfl, fun U hU hW => ⟨rfl, jw_of hU hW hP hK hD⟩⟩ rfl rfl hl.1 rfl (lv_room (Nat.le_of_ble_eq_true rfl)) dX13_given_4 ⟨(Nat.le_of_ble_eq_true rfl), (Nat.le_of_ble_eq_true rfl)⟩) hD hS hA (fun r_1 u_7 H locs w_2 hP hK hD hS => ?_)
  obtain ⟨g_5, a_6⟩ := u_7
  obtain ⟨z_3, rfl, hI, hfr_8, hfr_9, h_4⟩ := w_2
  have hP : va_P (dC, dI) vwCl (mG ad ca g_5 a_6) H := hP
  have hD : va_D A (mG ad ca g_5 a_6) := hD
  have hfA : ∀ j, j ∉ ([96, 97, 98, 99, 100] : List Nat) → g_5 j = g j := fun j h => (hfr_8 j (fun q => h (by first | exact q | (simp only [List.mem_cons, List.not_mem_nil, or_false] at q ⊢ <;> omega)))).trans (hfA j h)
  have haA : ∀ j, j ∉ ([62, 63, 64, 71, 72, 73, 74, 75] : List Nat) → a_6 j = a j := fun j h => (hfr_9 j (fun q => h (by first | exact q | (simp only [List.mem_cons, List.not_mem_nil, or_false] at q ⊢ <;> omega)))).trans (haA j h)
  refine xr_if_ne (tgt := 12) hx hb dX13_given_7 (by decide) (by omega) (fun h_11 => ?_) (fun h_11 => ?_)
  · refine lv_aload_n hx hb dX13_given_12 rfl (lv_at hl 0 rfl) ?_
    refine gf_bestCode hx hb hj hown hK hP hI dX13_given_13 (fun h_12 => ?_)
    refine lv_istore (lv' := [(5, .int (iI (g_5 98))), (0, .ref (ad 0)), (1, .int (iI p1)), (2, .int (iI p2)), (3, .int (iI p3)), (4, .int (iI p4))]) hx hb dX13_given_16 hl (by decide) rfl (fun ls hl => ?_)
    refine lv_aload_n hx hb dX13_given_18 rfl (lv_at hl 1 rfl) ?_
    refine gf_fewMany hx hb hj hown hK hP hI dX13_given_19 (fun h_13 => ?_)
    refine lv_iconst (v := iI 1) hx hb dX13_given_22 rfl ?_
    refine xr_sub hx hb dX13_given_23 ?_
    refine lv_istore (lv' := [(6, .int (iI ((g_5 96) - 1))), (5, .int (iI (g_5 98))), (0, .ref (ad 0)), (1, .int (iI p1)), (2, .int (iI p2)), (3, .int (iI p3)), (4, .int (iI p4))]) hx hb dX13_given_24 hl (by decide) rfl (fun ls hl => ?_)
    have L26 : ∀ (n26 : Nat) (v6_26 v5_26 : Int) (H : Heap) (locs : List Loc) (ls : Array Slot), ((-1) ≤ v6_26 ∧ v6_26 ≤ 6) → (0 ≤ v5_26 ∧ v5_26 ≤ 2147483647) → (0 ≤ v5_26) → (0 < (n26 : Int) ∧ v6_26 + 1 < (n26 : Int)) → va_P (dC, dI) vwCl (mG ad ca g_5 a_6) H → va_D A (mG ad ca g_5 a_6) → va_S A s.heap H locs → lv_has ls 7 [(6, .int (iI v6_26)), (5, .int (iI v5_26)), (0, .ref (ad 0)), (1, .int (iI p1)), (2, .int (iI p2)), (3, .int (iI p3)), (4, .int (iI p4))] → W p l e ({ frames := 10, cells := 0, slots := 0, locals := 244 }) s m ([.ref (ad 0), .int (iI p1), .int (iI p2), .int (iI p3), .int (iI p4)] : List Value).toArray below meth c H locs 0 0 Q (F0 m 26 ls []) := by
      intro n26
      induction n26 with
      | zero =>
        intro v6_26 v5_26 H locs ls h_14 h_15 h_16 hm26 hP hD hS hl
        exfalso; omega
      | succ n26 ih26 =>
        intro v6_26 v5_26 H locs ls h_17 h_18 h_19 hm26 hP hD hS hl
        refine lv_iload hx hb dX13_given_26 (lv_at hl 0 rfl) ?_
        refine xr_if_lt (tgt := 95) hx hb dX13_given_28 (by decide) (by omega) (fun h_20 => ?_) (fun h_20 => ?_)
        · refine lv_iconst (v := iI (-1)) hx hb dX13_given_95 rfl ?_
          rw [← hQ]
          exact W.iret (v := iI (-1)) hx hb hr (fun t ht hW => ⟨⟨iI (-1), (g_5, a_6), rfl, ⟨(-1), rfl, hI, hfA, haA, by omega⟩, by rw [ht]; exact hP, va_K.moved hW.alike hK, hD⟩, hS.F ht⟩) hS.2.2 dX13_given_96
        · refine lv_aload_n hx hb dX13_given_31 rfl (lv_at hl 2 rfl) ?_
          refine gf_few hx hb hj hown hK hP dX13_given_32 ?_
          refine lv_iload hx hb dX13_given_35 (lv_at hl 0 rfl) ?_
          refine ld_few hx hb hK hP hI (by omega) (by omega) dX13_given_37 (fun h_21 => ?_)
          refine lv_iload hx hb dX13_given_38 (lv_at hl 6 rfl) ?_
          refine xr_icmp_ne (tgt := 78) hx hb dX13_given_40 (by decide) (by omega) (by omega) (fun h_22 => ?_) (fun h_22 => ?_)
          · refine lv_iload hx hb dX13_given_78 (lv_at hl 1 rfl) ?_
            refine lv_aload_n hx hb dX13_given_80 rfl (lv_at hl 2 rfl) ?_
            refine gf_handMany hx hb hj hown hK hP hI dX13_given_81 (fun h_23 => ?_)
            refine lv_iconst (v := iI 1) hx hb dX13_given_84 rfl ?_
            refine xr_add hx hb dX13_given_85 ?_
            refine xr_divS hx hb dX13_given_86 (by omega) (by omega) (by omega) (by omega) (fun h_24 => ?_)
            refine lv_istore (lv' := [(5, .int (iI (v5_26 / ((g_5 97) + 1)))), (6, .int (iI v6_26)), (0, .ref (ad 0)), (1, .int (iI p1)), (2, .int (iI p2)), (3, .int (iI p3)), (4, .int (iI p4))]) hx hb dX13_given_87 hl (by decide) rfl (fun ls hl => ?_)
            refine lv_iinc (v := iI (v6_26 + (-1))) (lv' := [(6, .int (iI (v6_26 + (-1)))), (5, .int (iI (v5_26 / ((g_5 97) + 1)))), (0, .ref (ad 0)), (1, .int (iI p1)), (2, .int (iI p2)), (3, .int (iI p3)), (4, .int (iI p4))]) hx hb dX13_given_89 hl (k := 1) rfl (iI_add _ _) (by decide) rfl (fun ls hl => ?_)
            refine lv_goto (tgt := 26) hx hb dX13_given_92 (by decide) ?_
            exact ih26 (v6_26 + (-1)) (v5_26 / ((g_5 97) + 1)) H locs ls (by omega) (by omega) (by omega) (by omega) hP hD hS hl
          · refine lv_iload hx hb dX13_given_43 (lv_at hl 1 rfl) ?_
            refine lv_aload_n hx hb dX13_given_45 rfl (lv_at hl 2 rfl) ?_
            refine gf_handMany hx hb hj hown hK hP hI dX13_given_46 (fun h_25 => ?_)
            refine lv_iconst (v := iI 1) hx hb dX13_given_49 rfl ?_
            refine xr_add hx hb dX13_given_50 ?_
            refine xr_remS hx hb dX13_given_51 (by omega) (by omega) (by omega) (by omega) (fun h_26 => ?_)
            refine lv_aload_n hx hb dX13_given_52 rfl (lv_at hl 2 rfl) ?_
            refine gf_handMany hx hb hj hown hK hP hI dX13_given_53 (fun h_27 => ?_)
            refine xr_icmp_ne (tgt := 63) hx hb dX13_given_56 (by decide) (by omega) (by omega) (fun h_28 => ?_) (fun h_28 => ?_)
            · refine lv_aload_n hx hb dX13_given_63 rfl (lv_at hl 2 rfl) ?_
              refine gf_fewHands hx hb hj hown hK hP dX13_given_64 ?_
              refine lv_iload hx hb dX13_given_67 (lv_at hl 1 rfl) ?_
              refine lv_aload_n hx hb dX13_given_69 rfl (lv_at hl 2 rfl) ?_
              refine gf_handMany hx hb hj hown hK hP hI dX13_given_70 (fun h_29 => ?_)
              refine lv_iconst (v := iI 1) hx hb dX13_given_73 rfl ?_
              refine xr_add hx hb dX13_given_74 ?_
              refine xr_remS hx hb dX13_given_75 (by omega) (by omega) (by omega) (by omega) (fun h_30 => ?_)
              refine ld_fewHands hx hb hK hP hI (by omega) (by omega) dX13_given_76 (fun h_31 => ?_)
              rw [← hQ]
              exact W.iret (v := iI (a_6 72 (v5_26 % ((g_5 97) + 1)))) hx hb hr (fun t ht hW => ⟨⟨iI (a_6 72 (v5_26 % ((g_5 97) + 1))), (g_5, a_6), rfl, ⟨a_6 72 (v5_26 % ((g_5 97) + 1)), rfl, hI, hfA, haA, by omega⟩, by rw [ht]; exact hP, va_K.moved hW.alike hK, hD⟩, hS.F ht⟩) hS.2.2 dX13_given_77
            · refine lv_iconst (v := iI (-1)) hx hb dX13_given_59 rfl ?_
              refine lv_goto (tgt := 77) hx hb dX13_given_60 (by decide) ?_
              rw [← hQ]
              exact W.iret (v := iI (-1)) hx hb hr (fun t ht hW => ⟨⟨iI (-1), (g_5, a_6), rfl, ⟨(-1), rfl, hI, hfA, haA, by omega⟩, by rw [ht]; exact hP, va_K.moved hW.alike hK, hD⟩, hS.F ht⟩) hS.2.2 dX13_given_77
    exact L26 (((((g_5 96) - 1) + 1 : Int)).toNat + 1) ((g_5 96) - 1) (g_5 98) H locs ls (by omega) (by omega) (by omega) (by omega) hP hD hS hl
  · refine lv_iconst (v := iI (-1)) hx hb dX13_given_10 rfl ?_
    rw [← hQ]
    exact W.iret (v := iI (-1)) hx hb hr (fun t ht hW => ⟨⟨iI (-1), (g_5, a_6), rfl, ⟨(-1), rfl, hI, hfA, haA, by omega⟩, by rw [ht]; exact hP, va_K.moved hW.alike hK, hD⟩, hS.F ht⟩) hS.2.2 dX13_given_11
set_option maxHeartbeats 2000000 in
set_option maxRecDepth 100000 in
theorem sX13_laysOn (l : Launch) (dC : Nat → ClassId) (dI : Nat → Nat → Nat) (sz : Nat) (ad : Nat → Nat) (ca : Nat → ClassId) (g : Nat → Int) (a : Nat → Int → Int) (p1 : Int) (p2 : Int) (p3 : Int) (p4 : Int) (hI : mI g a) (q1 : rg p1) (q2 : rg p2) (q3 : rg p3) (q4 : rg p4) (k1 : p2 = 301) (k2 : p1 = 301 * p3 + p4) (k3 : 1 ≤ p3 ∧ p3 ≤ 30) (k4 : 1 ≤ p4 ∧ p4 ≤ 300) : Met l yX13_laysOn (jk yX13_laysOn cX13_laysOn 8 none) ({ frames := 2, cells := 0, slots := 0, locals := 46 }) (va_Pc [.ref (ad 0), .int (iI p1), .int (iI p2), .int (iI p3), .int (iI p4)] (jw_P (dC, dI) (mG ad ca g a) (mT ca) sz)) (va_Qv (fun (u : (Nat → Int) × (Nat → Int → Int)) => (u.1 = g) ∧ (mI u.1 u.2) ∧ (∀ j, j ∉ ([77, 78] : List Nat) → u.2 j = a j)) (fun u t => va_P (dC, dI) vwCl (mG ad ca u.1 u.2) t.heap ∧ va_K (dC, dI) vwCl (mT ca) t ∧ va_D (va_A (mG ad ca g a) sz) (mG ad ca u.1 u.2)) (va_A (mG ad ca g a) sz)) 0 0 (va_A (mG ad ca g a) sz) := by
  refine Met.ofW (cc := cX13_laysOn) (maxL := 8) (ret := none) (by decide) rfl ?_
  intro p e s m args below meth c s₁ B hml hv
  obtain ⟨rfl, hsz, hP, hK, hD0⟩ := hv
  have hx := B.exec
  have hb := B.bytes
  have hr := B.returns
  have hts := atoms_spec (ws := (jk yX13_laysOn cX13_laysOn 8 none)) B.pre
  have hj : ∀ w ∈ jw, w.before ([.ref (ad 0), .int (iI p1), .int (iI p2), .int (iI p3), .int (iI p4)] : List Value).toArray s = true := fun w h => hts w (jm h)
  have hown : s.vm.findClass RX13 = some m.cls := findClass_of_methodNamed B.named
  subst hsz
  have hD := hD0.self (sz := s.heap.size)
  generalize hAe : (va_A (mG ad ca g a) s.heap.size) = A at hD ⊢
  have hA : ∀ q : Nat, s.heap.size ≤ q → A q := fun q h => by rw [← hAe]; exact Or.inr h
  have hS : va_S A s.heap s.heap [] := va_S.rf
  have hP : va_P (dC, dI) vwCl (mG ad ca g a) s.heap := hP
  have haA : ∀ j, j ∉ ([77, 78] : List Nat) → a j = a j := fun _ _ => rfl
  have hl := lv_entry ([.ref (ad 0), .int (iI p1), .int (iI p2), .int (iI p3), .int (iI p4)]) (n := 8) (Nat.le_of_ble_eq_true rfl)
  rw [lg_entry_eq]
  generalize (lg_sl ([.ref (ad 0), .int (iI p1), .int (iI p2), .int (iI p3), .int (iI p4)]) ++ List.replicate (8 - (lg_sl ([.ref (ad 0), .int (iI p1), .int (iI p2), .int (iI p3), .int (iI p4)])).length) Slot.unset).toArray = ls at hl ⊢
  have hl : lv_has ls 8 [(0, .ref (ad 0)), (1, .int (iI p1)), (2, .int (iI p2)), (3, .int (iI p3)), (4, .int (iI p4))] := hl
  generalize hQ : MQ below (va_Qv (fun (u : (Nat → Int) × (Nat → Int → Int)) => (u.1 = g) ∧ (mI u.1 u.2) ∧ (∀ j, j ∉ ([77, 78] : List Nat) → u.2 j = a j)) (fun u t => va_P (dC, dI) vwCl (mG ad ca u.1 u.2) t.heap ∧ va_K (dC, dI) vwCl (mT ca) t ∧ va_D A (mG ad ca u.1 u.2)) A) ([.ref (ad 0), .int (iI p1), .int (iI p2), .int (iI p3), .int (iI p4)] : List Value).toArray s 0 0 A = Q
  suffices ST : ∀ (H : Heap) (locs : List Loc), va_P (dC, dI) vwCl (mG ad ca g a) H → va_S A s.heap H locs → W p l e ({ frames := 2, cells := 0, slots := 0, locals := 46 }) s m ([.ref (ad 0), .int (iI p1), .int (iI p2), .int (iI p3), .int (iI p4)] : List Value).toArray below meth c H locs 0 0 Q (F0 m 0 ls []) from ST _ _ hP hS
  clear hP hS
  intro H locs hP hS
  refine lv_aload_n hx hb dX13_laysOn_0 rfl (lv_at hl 0 rfl) ?_
  refine gf_laidLine hx hb hj hown hK hP dX13_laysOn_1 ?_
  refine lv_iload hx hb dX13_laysOn_4 (lv_at hl 4 rfl) ?_
  refine lv_iconst (v := iI 1) hx hb dX13_laysOn_6 rfl ?_
  refine xr_sub hx hb dX13_laysOn_7 ?_
  refine ld_laidLine hx hb hK hP hI (by omega) (by omega) dX13_laysOn_8 (fun h_1 => ?_)
  refine lv_istore (lv' := [(5, .int (iI (a 76 (p4 - 1)))), (0, .ref (ad 0)), (1, .int (iI p1)), (2, .int (iI p2)), (3, .int (iI p3)), (4, .int (iI p4))]) hx hb dX13_laysOn_9 hl (by decide) rfl (fun ls hl => ?_)
  refine lv_aload_n hx hb dX13_laysOn_11 rfl (lv_at hl 1 rfl) ?_
  refine gf_stole hx hb hj hown hK hP dX13_laysOn_12 ?_
  refine lv_iload_n hx hb dX13_laysOn_15 rfl (lv_at hl 4 rfl) ?_
  refine lv_iconst (v := iI 1) hx hb dX13_laysOn_16 rfl ?_
  refine xr_sub hx hb dX13_laysOn_17 ?_
  refine ld_stole hx hb hK hP hI (by omega) (by omega) dX13_laysOn_18 (fun h_2 => ?_)
  refine lv_aload_n hx hb dX13_laysOn_19 rfl (lv_at hl 1 rfl) ?_
  refine gf_lineKeeps hx hb hj hown hK hP dX13_laysOn_20 ?_
  refine lv_iload hx hb dX13_laysOn_23 (lv_at hl 0 rfl) ?_
  refine ld_lineKeeps hx hb hK hP hI (by omega) (by omega) dX13_laysOn_25 (fun h_3 => ?_)
  have J34 : ∀ (s0_34 : Int) (H : Heap) (locs : List Loc) (ls : Array Slot), (0 ≤ s0_34 ∧ s0_34 ≤ 1) → va_P (dC, dI) vwCl (mG ad ca g a) H → va_D A (mG ad ca g a) → va_S A s.heap H locs → lv_has ls 8 [(5, .int (iI (a 76 (p4 - 1)))), (0, .ref (ad 0)), (1, .int (iI p1)), (2, .int (iI p2)), (3, .int (iI p3)), (4, .int (iI p4))] → W p l e ({ frames := 2, cells := 0, slots := 0, locals := 46 }) s m ([.ref (ad 0), .int (iI p1), .int (iI p2), .int (iI p3), .int (iI p4)] : List Value).toArray below meth c H locs 0 0 Q (F0 m 34 ls [.int (iI s0_34)]) := by
    intro s0_34 H locs ls h_4 hP hD hS hl
    refine lv_istore (lv' := [(6, .int (iI s0_34)), (5, .int (iI (a 76 (p4 - 1)))), (0, .ref (ad 0)), (1, .int (iI p1)), (2, .int (iI p2)), (3, .int (iI p3)), (4, .int (iI p4))]) hx hb dX13_laysOn_34 hl (by decide) rfl (fun ls hl => ?_)
    refine lv_aload_n hx hb dX13_laysOn_36 rfl (lv_at hl 2 rfl) ?_
    refine lv_aload_n hx hb dX13_laysOn_37 rfl (lv_at hl 2 rfl) ?_
    refine gf_lineFact hx hb hj hown hK hP dX13_laysOn_38 ?_
    refine lv_iload hx hb dX13_laysOn_41 (lv_at hl 1 rfl) ?_
    refine ld_lineFact hx hb hK hP hI (by omega) (by omega) dX13_laysOn_43 (fun h_5 => ?_)
    refine lv_aload_n hx hb dX13_laysOn_44 rfl (lv_at hl 2 rfl) ?_
    refine gf_now hx hb hj hown hK hP hI dX13_laysOn_45 (fun h_6 => ?_)
    refine jc_i (va_runV (As := [.int (iI (a 44 (a 76 (p4 - 1)))), .int (iI (g 30))]) (rest := []) ⟨hx, hb, hml, hown, hts⟩ (sX13_valueOf l dC dI _ ad ca g a (a 44 (a 76 (p4 - 1))) (g 30) hI (by omega) (by omega)) (cwV 2 hts (jgoodV m_270 m_490 m_491 m_503 m_213) rfl rfl rfl (by decide +kernel) ⟨(Nat.le_of_ble_eq_true rfl), (Nat.le_of_ble_eq_true rfl)⟩) ⟨jw_blind, va_recv hK hP (ci := 13) (q0 := 0) rfl rfl, fun U hU hW => ⟨rfl, jw_of hU hW hP hK hD⟩⟩ rfl rfl hl.1 rfl (lv_room (Nat.le_of_ble_eq_true rfl)) dX13_laysOn_48 ⟨(Nat.le_of_ble_eq_true rfl), (Nat.le_of_ble_eq_true rfl)⟩) hP hS hA (fun r_7 H locs w_8 hP hS => ?_)
    obtain ⟨z_9, rfl, h_10⟩ := w_8
    refine lv_aload_n hx hb dX13_laysOn_51 rfl (lv_at hl 2 rfl) ?_
    refine gf_lineKeeps hx hb hj hown hK hP dX13_laysOn_52 ?_
    refine lv_iload hx hb dX13_laysOn_55 (lv_at hl 1 rfl) ?_
    refine ld_lineKeeps hx hb hK hP hI (by omega) (by omega) dX13_laysOn_57 (fun h_11 => ?_)
    have J66 : ∀ (s0_66 : Int) (H : Heap) (locs : List Loc) (ls : Array Slot), (0 ≤ s0_66 ∧ s0_66 ≤ 1) → va_P (dC, dI) vwCl (mG ad ca g a) H → va_D A (mG ad ca g a) → va_S A s.heap H locs → lv_has ls 8 [(6, .int (iI s0_34)), (5, .int (iI (a 76 (p4 - 1)))), (0, .ref (ad 0)), (1, .int (iI p1)), (2, .int (iI p2)), (3, .int (iI p3)), (4, .int (iI p4))] → W p l e ({ frames := 2, cells := 0, slots := 0, locals := 46 }) s m ([.ref (ad 0), .int (iI p1), .int (iI p2), .int (iI p3), .int (iI p4)] : List Value).toArray below meth c H locs 0 0 Q (F0 m 66 ls [.int (iI s0_66)]) := by
      intro s0_66 H locs ls h_12 hP hD hS hl
      refine lv_istore (lv' := [(7, .int (iI s0_66)), (6, .int (iI s0_34)), (5, .int (iI (a 76 (p4 - 1)))), (0, .ref (ad 0)), (1, .int (iI p1)), (2, .int (iI p2)), (3, .int (iI p3)), (4, .int (iI p4))]) hx hb dX13_laysOn_66 hl (by decide) rfl (fun ls hl => ?_)
      refine lv_aload_n hx hb dX13_laysOn_68 rfl (lv_at hl 3 rfl) ?_
      refine gf_changes hx hb hj hown hK hP dX13_laysOn_69 ?_
      refine lv_iload_n hx hb dX13_laysOn_72 rfl (lv_at hl 4 rfl) ?_
      refine lv_aload_n hx hb dX13_laysOn_73 rfl (lv_at hl 3 rfl) ?_
      refine gf_changes hx hb hj hown hK hP dX13_laysOn_74 ?_
      refine lv_iload_n hx hb dX13_laysOn_77 rfl (lv_at hl 4 rfl) ?_
      refine lv_iload_n hx hb dX13_laysOn_78 rfl (lv_at hl 5 rfl) ?_
      refine xr_sub hx hb dX13_laysOn_79 ?_
      refine xr_kept (fun z_13 h_14 h_15 => ?_)
      refine lv_iconst (v := iI 1) hx hb dX13_laysOn_80 rfl ?_
      refine xr_sub hx hb dX13_laysOn_81 ?_
      refine xr_kept (fun z_16 h_17 h_18 => ?_)
      refine ld_changes hx hb hK hP hI (by omega) (by omega) dX13_laysOn_82 (fun h_19 => ?_)
      refine lv_iload hx hb dX13_laysOn_83 (lv_at hl 1 rfl) ?_
      have J93 : ∀ (s0_93 : Int) (H : Heap) (locs : List Loc) (ls : Array Slot), (0 ≤ s0_93 ∧ s0_93 ≤ 1) → va_P (dC, dI) vwCl (mG ad ca g a) H → va_D A (mG ad ca g a) → va_S A s.heap H locs → lv_has ls 8 [(7, .int (iI s0_66)), (6, .int (iI s0_34)), (5, .int (iI (a 76 (p4 - 1)))), (0, .ref (ad 0)), (1, .int (iI p1)), (2, .int (iI p2)), (3, .int (iI p3)), (4, .int (iI p4))] → W p l e ({ frames := 2, cells := 0, slots := 0, locals := 46 }) s m ([.ref (ad 0), .int (iI p1), .int (iI p2), .int (iI p3), .int (iI p4)] : List Value).toArray below meth c H locs 0 0 Q (F0 m 93 ls [.int (iI s0_93), .int (iI (a 77 z_16)), .int (iI p1), .ref (ad 77)]) := by
        intro s0_93 H locs ls h_20 hP hD hS hl
        refine xr_add hx hb dX13_laysOn_93 ?_
        refine xr_kept (fun z_21 h_22 h_23 => ?_)
        refine sa_changes hx hb hK hP hD hS hI (by omega) (by omega) dX13_laysOn_94 (fun a_24 z_27 H locs h_28 h_29 e_25 e_26 hI hP hD hS => ?_)
        have haA : ∀ j, j ∉ ([77, 78] : List Nat) → a_24 j = a j := fun j h => (e_25 j (fun q => h (q ▸ (by decide : 77 ∈ ([77, 78] : List Nat))))).trans (haA j h)
        refine lv_aload_n hx hb dX13_laysOn_95 rfl (lv_at hl 3 rfl) ?_
        refine gf_shared hx hb hj hown hK hP dX13_laysOn_96 ?_
        refine lv_iload_n hx hb dX13_laysOn_99 rfl (lv_at hl 4 rfl) ?_
        refine lv_aload_n hx hb dX13_laysOn_100 rfl (lv_at hl 3 rfl) ?_
        refine gf_shared hx hb hj hown hK hP dX13_laysOn_101 ?_
        refine lv_iload_n hx hb dX13_laysOn_104 rfl (lv_at hl 4 rfl) ?_
        refine lv_iload_n hx hb dX13_laysOn_105 rfl (lv_at hl 5 rfl) ?_
        refine xr_sub hx hb dX13_laysOn_106 ?_
        refine xr_kept (fun z_30 h_31 h_32 => ?_)
        refine lv_iconst (v := iI 1) hx hb dX13_laysOn_107 rfl ?_
        refine xr_sub hx hb dX13_laysOn_108 ?_
        refine xr_kept (fun z_33 h_34 h_35 => ?_)
        refine ld_shared hx hb hK hP hI (by omega) (by omega) dX13_laysOn_109 (fun h_36 => ?_)
        refine lv_iload hx hb dX13_laysOn_110 (lv_at hl 1 rfl) ?_
        have J125 : ∀ (s0_125 : Int) (H : Heap) (locs : List Loc) (ls : Array Slot), (0 ≤ s0_125 ∧ s0_125 ≤ 1) → va_P (dC, dI) vwCl (mG ad ca g a_24) H → va_D A (mG ad ca g a_24) → va_S A s.heap H locs → lv_has ls 8 [(7, .int (iI s0_66)), (6, .int (iI s0_34)), (5, .int (iI (a 76 (p4 - 1)))), (0, .ref (ad 0)), (1, .int (iI p1)), (2, .int (iI p2)), (3, .int (iI p3)), (4, .int (iI p4))] → W p l e ({ frames := 2, cells := 0, slots := 0, locals := 46 }) s m ([.ref (ad 0), .int (iI p1), .int (iI p2), .int (iI p3), .int (iI p4)] : List Value).toArray below meth c H locs 0 0 Q (F0 m 125 ls [.int (iI s0_125), .int (iI (a_24 78 z_33)), .int (iI p1), .ref (ad 78)]) := by
          intro s0_125 H locs ls h_37 hP hD hS hl
          refine xr_add hx hb dX13_laysOn_125 ?_
          refine xr_kept (fun z_38 h_39 h_40 => ?_)
          refine sa_shared hx hb hK hP hD hS hI (by omega) (by omega) dX13_laysOn_126 (fun a_41 z_44 H locs h_45 h_46 e_42 e_43 hI hP hD hS => ?_)
          have haA : ∀ j, j ∉ ([77, 78] : List Nat) → a_41 j = a j := fun j h => (e_42 j (fun q => h (q ▸ (by decide : 78 ∈ ([77, 78] : List Nat))))).trans (haA j h)
          refine lv_aload_n hx hb dX13_laysOn_127 rfl (lv_at hl 3 rfl) ?_
          refine lv_iload_n hx hb dX13_laysOn_128 rfl (lv_at hl 4 rfl) ?_
          refine lv_iload_n hx hb dX13_laysOn_129 rfl (lv_at hl 4 rfl) ?_
          refine lv_iconst (v := iI 1) hx hb dX13_laysOn_130 rfl ?_
          refine xr_sub hx hb dX13_laysOn_131 ?_
          refine xr_kept (fun z_47 h_48 h_49 => ?_)
          refine jcg_v (va_runV (As := [.int (iI p1), .int (iI z_47)]) (rest := []) ⟨hx, hb, hml, hown, hts⟩ (sX13_better l dC dI _ ad ca g a_41 p1 z_47 hI (by omega) (by omega) (by omega) (by omega)) (cwV 2 hts (jgoodV m_284 m_293 m_294 m_503 m_111) rfl rfl rfl (by decide +kernel) ⟨(Nat.le_of_ble_eq_true rfl), (Nat.le_of_ble_eq_true rfl)⟩) ⟨jw_blind, va_recv hK hP (ci := 13) (q0 := 0) rfl rfl, fun U hU hW => ⟨rfl, jw_of hU hW hP hK hD⟩⟩ rfl rfl hl.1 rfl (lv_room (Nat.le_of_ble_eq_true rfl)) dX13_laysOn_132 ⟨(Nat.le_of_ble_eq_true rfl), (Nat.le_of_ble_eq_true rfl)⟩) hD hS hA (fun u_55 H locs w_51 hP hK hD hS => ?_)
          obtain ⟨g_53, a_54⟩ := u_55
          obtain ⟨e_57, hI, hfr_56⟩ := w_51
          have hP : va_P (dC, dI) vwCl (mG ad ca g_53 a_54) H := hP
          have hD : va_D A (mG ad ca g_53 a_54) := hD
          have e_57 : g = g_53 := e_57.symm
          subst e_57
          have haA : ∀ j, j ∉ ([77, 78] : List Nat) → a_54 j = a j := fun j h => (hfr_56 j (fun q => h (by first | exact q | (simp only [List.mem_cons, List.not_mem_nil, or_false] at q ⊢ <;> omega)))).trans (haA j h)
          refine lv_aload_n hx hb dX13_laysOn_135 rfl (lv_at hl 3 rfl) ?_
          refine lv_iload_n hx hb dX13_laysOn_136 rfl (lv_at hl 4 rfl) ?_
          refine lv_iload_n hx hb dX13_laysOn_137 rfl (lv_at hl 4 rfl) ?_
          refine lv_iload_n hx hb dX13_laysOn_138 rfl (lv_at hl 5 rfl) ?_
          refine xr_sub hx hb dX13_laysOn_139 ?_
          refine xr_kept (fun z_58 h_59 h_60 => ?_)
          refine jcg_v (va_runV (As := [.int (iI p1), .int (iI z_58)]) (rest := []) ⟨hx, hb, hml, hown, hts⟩ (sX13_better l dC dI _ ad ca g a_54 p1 z_58 hI (by omega) (by omega) (by omega) (by omega)) (cwV 2 hts (jgoodV m_284 m_293 m_294 m_503 m_111) rfl rfl rfl (by decide +kernel) ⟨(Nat.le_of_ble_eq_true rfl), (Nat.le_of_ble_eq_true rfl)⟩) ⟨jw_blind, va_recv hK hP (ci := 13) (q0 := 0) rfl rfl, fun U hU hW => ⟨rfl, jw_of hU hW hP hK hD⟩⟩ rfl rfl hl.1 rfl (lv_room (Nat.le_of_ble_eq_true rfl)) dX13_laysOn_140 ⟨(Nat.le_of_ble_eq_true rfl), (Nat.le_of_ble_eq_true rfl)⟩) hD hS hA (fun u_66 H locs w_62 hP hK hD hS => ?_)
          obtain ⟨g_64, a_65⟩ := u_66
          obtain ⟨e_68, hI, hfr_67⟩ := w_62
          have hP : va_P (dC, dI) vwCl (mG ad ca g_64 a_65) H := hP
          have hD : va_D A (mG ad ca g_64 a_65) := hD
          have e_68 : g = g_64 := e_68.symm
          subst e_68
          have haA : ∀ j, j ∉ ([77, 78] : List Nat) → a_65 j = a j := fun j h => (hfr_67 j (fun q => h (by first | exact q | (simp only [List.mem_cons, List.not_mem_nil, or_false] at q ⊢ <;> omega)))).trans (haA j h)
          rw [← hQ]
          exact W.vret hx hb hr (fun t ht hW => ⟨⟨(g, a_65), rfl, ⟨rfl, hI, haA⟩, by rw [ht]; exact hP, va_K.moved hW.alike hK, hD⟩, hS.F ht⟩) hS.2.2 dX13_laysOn_143
        have J124 : ∀ (H : Heap) (locs : List Loc) (ls : Array Slot), va_P (dC, dI) vwCl (mG ad ca g a_24) H → va_D A (mG ad ca g a_24) → va_S A s.heap H locs → lv_has ls 8 [(7, .int (iI s0_66)), (6, .int (iI s0_34)), (5, .int (iI (a 76 (p4 - 1)))), (0, .ref (ad 0)), (1, .int (iI p1)), (2, .int (iI p2)), (3, .int (iI p3)), (4, .int (iI p4))] → W p l e ({ frames := 2, cells := 0, slots := 0, locals := 46 }) s m ([.ref (ad 0), .int (iI p1), .int (iI p2), .int (iI p3), .int (iI p4)] : List Value).toArray below meth c H locs 0 0 Q (F0 m 124 ls [.int (iI (a_24 78 z_33)), .int (iI p1), .ref (ad 78)]) := by
          intro H locs ls hP hD hS hl
          refine lv_iconst (v := iI 0) hx hb dX13_laysOn_124 rfl ?_
          exact J125 0 H locs ls (by omega) hP hD hS hl
        refine xr_if_eq (tgt := 124) hx hb dX13_laysOn_112 (by decide) (by omega) (fun h_69 => ?_) (fun h_69 => ?_)
        · exact J124 H locs ls hP hD hS hl
        · refine lv_iload hx hb dX13_laysOn_115 (lv_at hl 0 rfl) ?_
          refine xr_if_eq (tgt := 124) hx hb dX13_laysOn_117 (by decide) (by omega) (fun h_70 => ?_) (fun h_70 => ?_)
          · exact J124 H locs ls hP hD hS hl
          · refine lv_iconst (v := iI 1) hx hb dX13_laysOn_120 rfl ?_
            refine lv_goto (tgt := 125) hx hb dX13_laysOn_121 (by decide) ?_
            exact J125 1 H locs ls (by omega) hP hD hS hl
      refine xr_if_eq (tgt := 92) hx hb dX13_laysOn_85 (by decide) (by omega) (fun h_71 => ?_) (fun h_71 => ?_)
      · refine lv_iconst (v := iI 1) hx hb dX13_laysOn_92 rfl ?_
        exact J93 1 H locs ls (by omega) hP hD hS hl
      · refine lv_iconst (v := iI 0) hx hb dX13_laysOn_88 rfl ?_
        refine lv_goto (tgt := 93) hx hb dX13_laysOn_89 (by decide) ?_
        exact J93 0 H locs ls (by omega) hP hD hS hl
    refine xr_icmp_eq (tgt := 65) hx hb dX13_laysOn_58 (by decide) (by omega) (by omega) (fun h_72 => ?_) (fun h_72 => ?_)
    · refine lv_iconst (v := iI 0) hx hb dX13_laysOn_65 rfl ?_
      exact J66 0 H locs ls (by omega) hP hD hS hl
    · refine lv_iconst (v := iI 1) hx hb dX13_laysOn_61 rfl ?_
      refine lv_goto (tgt := 66) hx hb dX13_laysOn_62 (by decide) ?_
      exact J66 1 H locs ls (by omega) hP hD hS hl
  refine xr_icmp_ne (tgt := 33) hx hb dX13_laysOn_26 (by decide) (by omega) (by omega) (fun h_73 => ?_) (fun h_73 => ?_)
  · refine lv_iconst (v := iI 0) hx hb dX13_laysOn_33 rfl ?_
    exact J34 0 H locs ls (by omega) hP hD hS hl
  · refine lv_iconst (v := iI 1) hx hb dX13_laysOn_29 rfl ?_
    refine lv_goto (tgt := 34) hx hb dX13_laysOn_30 (by decide) ?_
    exact J34 1 H locs ls (by omega) hP hD hS hl
set_option maxHeartbeats 2000000 in
set_option maxRecDepth 100000 in
theorem sX13_thief (l : Launch) (dC : Nat → ClassId) (dI : Nat → Nat → Nat) (sz : Nat) (ad : Nat → Nat) (ca : Nat → ClassId) (g : Nat → Int) (a : Nat → Int → Int) (p1 : Int) (p2 : Int) (hI : mI g a) (q1 : rg p1) (q2 : rg p2) : Met l yX13_thief (jk yX13_thief cX13_thief 8 (some .int)) ({ frames := 3, cells := 0, slots := 0, locals := 73 }) (va_Pc [.ref (ad 0), .int (iI p1), .int (iI p2)] (jw_P (dC, dI) (mG ad ca g a) (mT ca) sz)) (va_Qi (fun (r : Int32) (u : (Nat → Int) × (Nat → Int → Int)) => ∃ z : Int, r = iI z ∧ (u.1 = g) ∧ (mI u.1 u.2) ∧ (∀ j, j ∉ ([76, 77, 78] : List Nat) → u.2 j = a j) ∧ (rg z)) (fun u t => va_P (dC, dI) vwCl (mG ad ca u.1 u.2) t.heap ∧ va_K (dC, dI) vwCl (mT ca) t ∧ va_D (va_A (mG ad ca g a) sz) (mG ad ca u.1 u.2)) (va_A (mG ad ca g a) sz)) 0 0 (va_A (mG ad ca g a) sz) := by
  refine Met.ofW (cc := cX13_thief) (maxL := 8) (ret := (some .int)) (by decide) rfl ?_
  intro p e s m args below meth c s₁ B hml hv
  obtain ⟨rfl, hsz, hP, hK, hD0⟩ := hv
  have hx := B.exec
  have hb := B.bytes
  have hr := B.returns
  have hts := atoms_spec (ws := (jk yX13_thief cX13_thief 8 (some .int))) B.pre
  have hj : ∀ w ∈ jw, w.before ([.ref (ad 0), .int (iI p1), .int (iI p2)] : List Value).toArray s = true := fun w h => hts w (jm h)
  have hown : s.vm.findClass RX13 = some m.cls := findClass_of_methodNamed B.named
  subst hsz
  have hD := hD0.self (sz := s.heap.size)
  generalize hAe : (va_A (mG ad ca g a) s.heap.size) = A at hD ⊢
  have hA : ∀ q : Nat, s.heap.size ≤ q → A q := fun q h => by rw [← hAe]; exact Or.inr h
  have hS : va_S A s.heap s.heap [] := va_S.rf
  have hP : va_P (dC, dI) vwCl (mG ad ca g a) s.heap := hP
  have haA : ∀ j, j ∉ ([76, 77, 78] : List Nat) → a j = a j := fun _ _ => rfl
  have hl := lv_entry ([.ref (ad 0), .int (iI p1), .int (iI p2)]) (n := 8) (Nat.le_of_ble_eq_true rfl)
  rw [lg_entry_eq]
  generalize (lg_sl ([.ref (ad 0), .int (iI p1), .int (iI p2)]) ++ List.replicate (8 - (lg_sl ([.ref (ad 0), .int (iI p1), .int (iI p2)])).length) Slot.unset).toArray = ls at hl ⊢
  have hl : lv_has ls 8 [(0, .ref (ad 0)), (1, .int (iI p1)), (2, .int (iI p2))] := hl
  generalize hQ : MQ below (va_Qi (fun (r : Int32) (u : (Nat → Int) × (Nat → Int → Int)) => ∃ z : Int, r = iI z ∧ (u.1 = g) ∧ (mI u.1 u.2) ∧ (∀ j, j ∉ ([76, 77, 78] : List Nat) → u.2 j = a j) ∧ (rg z)) (fun u t => va_P (dC, dI) vwCl (mG ad ca u.1 u.2) t.heap ∧ va_K (dC, dI) vwCl (mT ca) t ∧ va_D A (mG ad ca u.1 u.2)) A) ([.ref (ad 0), .int (iI p1), .int (iI p2)] : List Value).toArray s 0 0 A = Q
  suffices ST : ∀ (H : Heap) (locs : List Loc), va_P (dC, dI) vwCl (mG ad ca g a) H → va_S A s.heap H locs → W p l e ({ frames := 3, cells := 0, slots := 0, locals := 73 }) s m ([.ref (ad 0), .int (iI p1), .int (iI p2)] : List Value).toArray below meth c H locs 0 0 Q (F0 m 0 ls []) from ST _ _ hP hS
  clear hP hS
  intro H locs hP hS
  have b56_0 : 0 ≤ g 56 ∧ g 56 ≤ 300 := hI.1 56
  have b78_0 : 0 ≤ g 78 ∧ g 78 ≤ 30 := hI.1 78
  have q0 := (tc_le (a 50) 0 0 (g 56).toNat).1
  refine lv_iload_n hx hb dX13_thief_0 rfl (lv_at hl 1 rfl) ?_
  refine jc_i (va_runS (As := [.int (iI p1)]) (rest := []) ⟨hx, hb, hml, hown, hts⟩ (sX13_isVolume l dC dI _ p1 (by omega)) (va_cwS 1 hts (jgoodS m_243 m_395 m_503 m_164) rfl rfl rfl (by decide +kernel) ⟨(Nat.le_of_ble_eq_true rfl), (Nat.le_of_ble_eq_true rfl)⟩) ⟨jw_blind0, fun U hU hW => ⟨rfl, congrArg Array.size hU⟩⟩ rfl rfl hl.1 rfl (lv_room (Nat.le_of_ble_eq_true rfl)) dX13_thief_1 ⟨(Nat.le_of_ble_eq_true rfl), (Nat.le_of_ble_eq_true rfl)⟩) hP hS hA (fun r_1 H locs w_2 hP hS => ?_)
  obtain ⟨z_3, rfl, h_4, h_5⟩ := w_2
  refine xr_if_eq (tgt := 25) hx hb dX13_thief_4 (by decide) (by omega) (fun h_6 => ?_) (fun h_6 => ?_)
  · refine lv_iconst (v := iI (-1)) hx hb dX13_thief_25 rfl ?_
    rw [← hQ]
    exact W.iret (v := iI (-1)) hx hb hr (fun t ht hW => ⟨⟨iI (-1), (g, a), rfl, ⟨(-1), rfl, rfl, hI, haA, by omega⟩, by rw [ht]; exact hP, va_K.moved hW.alike hK, hD⟩, hS.F ht⟩) hS.2.2 dX13_thief_26
  · refine lv_aload_n hx hb dX13_thief_7 rfl (lv_at hl 0 rfl) ?_
    refine gf_isSet hx hb hj hown hK hP dX13_thief_8 ?_
    refine lv_iload_n hx hb dX13_thief_11 rfl (lv_at hl 1 rfl) ?_
    refine ld_isSet hx hb hK hP hI (by omega) (by omega) dX13_thief_12 (fun h_7 => ?_)
    refine xr_if_eq (tgt := 25) hx hb dX13_thief_13 (by decide) (by omega) (fun h_8 => ?_) (fun h_8 => ?_)
    · refine lv_iconst (v := iI (-1)) hx hb dX13_thief_25 rfl ?_
      rw [← hQ]
      exact W.iret (v := iI (-1)) hx hb hr (fun t ht hW => ⟨⟨iI (-1), (g, a), rfl, ⟨(-1), rfl, rfl, hI, haA, by omega⟩, by rw [ht]; exact hP, va_K.moved hW.alike hK, hD⟩, hS.F ht⟩) hS.2.2 dX13_thief_26
    · refine lv_iload_n hx hb dX13_thief_16 rfl (lv_at hl 2 rfl) ?_
      refine lv_iconst (v := iI 0) hx hb dX13_thief_17 rfl ?_
      refine lv_iconst (v := iI 1) hx hb dX13_thief_18 rfl ?_
      refine jc_i (va_runS (As := [.int (iI p2), .int (iI 0), .int (iI 1)]) (rest := []) ⟨hx, hb, hml, hown, hts⟩ (sX13_in l dC dI _ p2 0 1 (by omega) (by omega) (by omega)) (va_cwS 3 hts (jgoodS m_220 m_364 m_503 m_147) rfl rfl rfl (by decide +kernel) ⟨(Nat.le_of_ble_eq_true rfl), (Nat.le_of_ble_eq_true rfl)⟩) ⟨jw_blind0, fun U hU hW => ⟨rfl, congrArg Array.size hU⟩⟩ rfl rfl hl.1 rfl (lv_room (Nat.le_of_ble_eq_true rfl)) dX13_thief_19 ⟨(Nat.le_of_ble_eq_true rfl), (Nat.le_of_ble_eq_true rfl)⟩) hP hS hA (fun r_9 H locs w_10 hP hS => ?_)
      obtain ⟨z_11, rfl, h_12, h_13⟩ := w_10
      refine xr_if_ne (tgt := 27) hx hb dX13_thief_22 (by decide) (by omega) (fun h_14 => ?_) (fun h_14 => ?_)
      · refine lv_iconst (v := iI 0) hx hb dX13_thief_27 rfl ?_
        refine lv_istore_n (lv' := [(3, .int (iI 0)), (0, .ref (ad 0)), (1, .int (iI p1)), (2, .int (iI p2))]) hx hb dX13_thief_28 rfl hl (by decide) rfl (fun ls hl => ?_)
        refine lv_iconst (v := iI 0) hx hb dX13_thief_29 rfl ?_
        refine lv_istore (lv' := [(4, .int (iI 0)), (3, .int (iI 0)), (0, .ref (ad 0)), (1, .int (iI p1)), (2, .int (iI p2))]) hx hb dX13_thief_30 hl (by decide) rfl (fun ls hl => ?_)
        have L32 : ∀ (n32 : Nat) (v4_32 v3_32 : Int) (a_32 : Nat → Int → Int) (H : Heap) (locs : List Loc) (ls : Array Slot), (0 ≤ v4_32 ∧ v4_32 ≤ 2147483647) → ((-2147483648) ≤ v3_32 ∧ v3_32 ≤ 2147483647) → (0 ≤ v3_32) → (v3_32 ≤ tc (a 50) v4_32 0 (g 56).toNat) → (mI g a_32) → (∀ j, j ∉ ([76, 77, 78] : List Nat) → a_32 j = a j) → (0 < (n32 : Int) ∧ (g 56) - v4_32 < (n32 : Int)) → va_P (dC, dI) vwCl (mG ad ca g a_32) H → va_D A (mG ad ca g a_32) → va_S A s.heap H locs → lv_has ls 8 [(4, .int (iI v4_32)), (3, .int (iI v3_32)), (0, .ref (ad 0)), (1, .int (iI p1)), (2, .int (iI p2))] → W p l e ({ frames := 3, cells := 0, slots := 0, locals := 73 }) s m ([.ref (ad 0), .int (iI p1), .int (iI p2)] : List Value).toArray below meth c H locs 0 0 Q (F0 m 32 ls []) := by
          intro n32
          induction n32 with
          | zero =>
            intro v4_32 v3_32 a_32 H locs ls h_15 h_16 h_17 h_18 hI haA hm32 hP hD hS hl
            exfalso; omega
          | succ n32 ih32 =>
            intro v4_32 v3_32 a_32 H locs ls h_19 h_20 h_21 h_22 hI haA hm32 hP hD hS hl
            refine lv_iload hx hb dX13_thief_32 (lv_at hl 0 rfl) ?_
            refine lv_aload_n hx hb dX13_thief_34 rfl (lv_at hl 2 rfl) ?_
            refine gf_lines hx hb hj hown hK hP hI dX13_thief_35 (fun h_23 => ?_)
            refine xr_icmp_ge (tgt := 129) hx hb dX13_thief_38 (by decide) (by omega) (by omega) (fun h_24 => ?_) (fun h_24 => ?_)
            · have q5 := (tc_le (a 50) (v4_32) 0 (g 56).toNat).2
              refine lv_sipush (v := iI 301) hx hb dX13_thief_129 rfl ?_
              refine lv_istore (lv' := [(4, .int (iI 301)), (3, .int (iI v3_32)), (0, .ref (ad 0)), (1, .int (iI p1)), (2, .int (iI p2))]) hx hb dX13_thief_132 hl (by decide) rfl (fun ls hl => ?_)
              refine lv_iconst (v := iI 0) hx hb dX13_thief_134 rfl ?_
              refine lv_istore (lv' := [(5, .int (iI 0)), (4, .int (iI 301)), (3, .int (iI v3_32)), (0, .ref (ad 0)), (1, .int (iI p1)), (2, .int (iI p2))]) hx hb dX13_thief_135 hl (by decide) rfl (fun ls hl => ?_)
              have L137 : ∀ (n137 : Nat) (v5_137 : Int) (a_137 : Nat → Int → Int) (H : Heap) (locs : List Loc) (ls : Array Slot), (0 ≤ v5_137 ∧ v5_137 ≤ 2147483647) → (mI g a_137) → (∀ j, j ∉ ([76, 77, 78] : List Nat) → a_137 j = a j) → (0 < (n137 : Int) ∧ (g 78) - v5_137 + 1 < (n137 : Int)) → va_P (dC, dI) vwCl (mG ad ca g a_137) H → va_D A (mG ad ca g a_137) → va_S A s.heap H locs → lv_has ls 8 [(5, .int (iI v5_137)), (4, .int (iI 301)), (3, .int (iI v3_32)), (0, .ref (ad 0)), (1, .int (iI p1)), (2, .int (iI p2))] → W p l e ({ frames := 3, cells := 0, slots := 0, locals := 73 }) s m ([.ref (ad 0), .int (iI p1), .int (iI p2)] : List Value).toArray below meth c H locs 0 0 Q (F0 m 137 ls []) := by
                intro n137
                induction n137 with
                | zero =>
                  intro v5_137 a_137 H locs ls h_25 hI haA hm137 hP hD hS hl
                  exfalso; omega
                | succ n137 ih137 =>
                  intro v5_137 a_137 H locs ls h_26 hI haA hm137 hP hD hS hl
                  refine lv_iload hx hb dX13_thief_137 (lv_at hl 0 rfl) ?_
                  refine lv_aload_n hx hb dX13_thief_139 rfl (lv_at hl 3 rfl) ?_
                  refine gf_stolen hx hb hj hown hK hP hI dX13_thief_140 (fun h_27 => ?_)
                  refine xr_icmp_gt (tgt := 219) hx hb dX13_thief_143 (by decide) (by omega) (by omega) (fun h_28 => ?_) (fun h_28 => ?_)
                  · refine lv_iload_n hx hb dX13_thief_219 rfl (lv_at hl 5 rfl) ?_
                    refine xr_if_ne (tgt := 240) hx hb dX13_thief_220 (by decide) (by omega) (fun h_29 => ?_) (fun h_29 => ?_)
                    · refine lv_aload_n hx hb dX13_thief_240 rfl (lv_at hl 3 rfl) ?_
                      refine gf_shared hx hb hj hown hK hP dX13_thief_241 ?_
                      refine lv_iload hx hb dX13_thief_244 (lv_at hl 1 rfl) ?_
                      refine lv_aload_n hx hb dX13_thief_246 rfl (lv_at hl 3 rfl) ?_
                      refine gf_stolen hx hb hj hown hK hP hI dX13_thief_247 (fun h_30 => ?_)
                      refine xr_mul hx hb dX13_thief_250 ?_
                      refine lv_iload_n hx hb dX13_thief_251 rfl (lv_at hl 2 rfl) ?_
                      refine xr_add hx hb dX13_thief_252 ?_
                      refine xr_kept (fun z_31 h_32 h_33 => ?_)
                      refine ld_shared hx hb hK hP hI (by omega) (by omega) dX13_thief_253 (fun h_34 => ?_)
                      rw [← hQ]
                      exact W.iret (v := iI (a_137 78 z_31)) hx hb hr (fun t ht hW => ⟨⟨iI (a_137 78 z_31), (g, a_137), rfl, ⟨a_137 78 z_31, rfl, rfl, hI, haA, by omega⟩, by rw [ht]; exact hP, va_K.moved hW.alike hK, hD⟩, hS.F ht⟩) hS.2.2 dX13_thief_254
                    · refine lv_aload_n hx hb dX13_thief_223 rfl (lv_at hl 3 rfl) ?_
                      refine gf_changes hx hb hj hown hK hP dX13_thief_224 ?_
                      refine lv_iload hx hb dX13_thief_227 (lv_at hl 1 rfl) ?_
                      refine lv_aload_n hx hb dX13_thief_229 rfl (lv_at hl 3 rfl) ?_
                      refine gf_stolen hx hb hj hown hK hP hI dX13_thief_230 (fun h_35 => ?_)
                      refine xr_mul hx hb dX13_thief_233 ?_
                      refine lv_iload_n hx hb dX13_thief_234 rfl (lv_at hl 2 rfl) ?_
                      refine xr_add hx hb dX13_thief_235 ?_
                      refine xr_kept (fun z_36 h_37 h_38 => ?_)
                      refine ld_changes hx hb hK hP hI (by omega) (by omega) dX13_thief_236 (fun h_39 => ?_)
                      refine lv_goto (tgt := 254) hx hb dX13_thief_237 (by decide) ?_
                      rw [← hQ]
                      exact W.iret (v := iI (a_137 77 z_36)) hx hb hr (fun t ht hW => ⟨⟨iI (a_137 77 z_36), (g, a_137), rfl, ⟨a_137 77 z_36, rfl, rfl, hI, haA, by omega⟩, by rw [ht]; exact hP, va_K.moved hW.alike hK, hD⟩, hS.F ht⟩) hS.2.2 dX13_thief_254
                  · refine lv_iconst (v := iI 0) hx hb dX13_thief_146 rfl ?_
                    refine lv_istore (lv' := [(6, .int (iI 0)), (5, .int (iI v5_137)), (4, .int (iI 301)), (3, .int (iI v3_32)), (0, .ref (ad 0)), (1, .int (iI p1)), (2, .int (iI p2))]) hx hb dX13_thief_147 hl (by decide) rfl (fun ls hl => ?_)
                    have L149 : ∀ (n149 : Nat) (v6_149 : Int) (a_149 : Nat → Int → Int) (H : Heap) (locs : List Loc) (ls : Array Slot), ((-2147483648) ≤ v6_149 ∧ v6_149 ≤ 2147483647) → (0 ≤ v6_149) → (mI g a_149) → (∀ j, j ∉ ([76, 77, 78] : List Nat) → a_149 j = a j) → (0 < (n149 : Int) ∧ v3_32 - v6_149 + 1 < (n149 : Int)) → va_P (dC, dI) vwCl (mG ad ca g a_149) H → va_D A (mG ad ca g a_149) → va_S A s.heap H locs → lv_has ls 8 [(6, .int (iI v6_149)), (5, .int (iI v5_137)), (4, .int (iI 301)), (3, .int (iI v3_32)), (0, .ref (ad 0)), (1, .int (iI p1)), (2, .int (iI p2))] → W p l e ({ frames := 3, cells := 0, slots := 0, locals := 73 }) s m ([.ref (ad 0), .int (iI p1), .int (iI p2)] : List Value).toArray below meth c H locs 0 0 Q (F0 m 149 ls []) := by
                      intro n149
                      induction n149 with
                      | zero =>
                        intro v6_149 a_149 H locs ls h_40 h_41 hI haA hm149 hP hD hS hl
                        exfalso; omega
                      | succ n149 ih149 =>
                        intro v6_149 a_149 H locs ls h_42 h_43 hI haA hm149 hP hD hS hl
                        refine lv_iload hx hb dX13_thief_149 (lv_at hl 0 rfl) ?_
                        refine lv_iload_n hx hb dX13_thief_151 rfl (lv_at hl 3 rfl) ?_
                        refine xr_icmp_gt (tgt := 213) hx hb dX13_thief_152 (by decide) (by omega) (by omega) (fun h_44 => ?_) (fun h_44 => ?_)
                        · refine lv_iinc (v := iI (v5_137 + 1)) (lv' := [(5, .int (iI (v5_137 + 1))), (6, .int (iI v6_149)), (4, .int (iI 301)), (3, .int (iI v3_32)), (0, .ref (ad 0)), (1, .int (iI p1)), (2, .int (iI p2))]) hx hb dX13_thief_213 hl (k := 1) rfl (iI_add _ _) (by decide) rfl (fun ls hl => ?_)
                          refine lv_goto (tgt := 137) hx hb dX13_thief_216 (by decide) ?_
                          exact ih137 (v5_137 + 1) a_149 H locs ls (by omega) hI haA (by omega) hP hD hS (lv_sub hl [0, 2, 3, 4, 5, 6] rfl)
                        · refine lv_iload hx hb dX13_thief_155 (lv_at hl 2 rfl) ?_
                          refine lv_iload hx hb dX13_thief_157 (lv_at hl 1 rfl) ?_
                          refine xr_mul hx hb dX13_thief_159 ?_
                          refine lv_iload hx hb dX13_thief_160 (lv_at hl 0 rfl) ?_
                          refine xr_add hx hb dX13_thief_162 ?_
                          refine xr_kept (fun z_45 h_46 h_47 => ?_)
                          refine lv_istore (lv' := [(7, .int (iI z_45)), (6, .int (iI v6_149)), (5, .int (iI v5_137)), (4, .int (iI 301)), (3, .int (iI v3_32)), (0, .ref (ad 0)), (1, .int (iI p1)), (2, .int (iI p2))]) hx hb dX13_thief_163 hl (by decide) rfl (fun ls hl => ?_)
                          refine lv_aload_n hx hb dX13_thief_165 rfl (lv_at hl 5 rfl) ?_
                          refine gf_changes hx hb hj hown hK hP dX13_thief_166 ?_
                          refine lv_iload hx hb dX13_thief_169 (lv_at hl 0 rfl) ?_
                          refine lv_iload hx hb dX13_thief_171 (lv_at hl 2 rfl) ?_
                          refine lv_iload hx hb dX13_thief_173 (lv_at hl 1 rfl) ?_
                          refine xr_add hx hb dX13_thief_175 ?_
                          refine xr_kept (fun z_48 h_49 h_50 => ?_)
                          refine sa_changes hx hb hK hP hD hS hI (by omega) (by omega) dX13_thief_176 (fun a_51 z_54 H locs h_55 h_56 e_52 e_53 hI hP hD hS => ?_)
                          have haA : ∀ j, j ∉ ([76, 77, 78] : List Nat) → a_51 j = a j := fun j h => (e_52 j (fun q => h (q ▸ (by decide : 77 ∈ ([76, 77, 78] : List Nat))))).trans (haA j h)
                          refine lv_aload_n hx hb dX13_thief_177 rfl (lv_at hl 5 rfl) ?_
                          refine gf_shared hx hb hj hown hK hP dX13_thief_178 ?_
                          refine lv_iload hx hb dX13_thief_181 (lv_at hl 0 rfl) ?_
                          refine lv_iconst (v := iI 0) hx hb dX13_thief_183 rfl ?_
                          refine sa_shared hx hb hK hP hD hS hI (by omega) (by omega) dX13_thief_184 (fun a_57 z_60 H locs h_61 h_62 e_58 e_59 hI hP hD hS => ?_)
                          have haA : ∀ j, j ∉ ([76, 77, 78] : List Nat) → a_57 j = a j := fun j h => (e_58 j (fun q => h (q ▸ (by decide : 78 ∈ ([76, 77, 78] : List Nat))))).trans (haA j h)
                          refine lv_iload hx hb dX13_thief_185 (lv_at hl 2 rfl) ?_
                          have J207 : ∀ (a_207 : Nat → Int → Int) (H : Heap) (locs : List Loc) (ls : Array Slot), (mI g a_207) → (∀ j, j ∉ ([76, 77, 78] : List Nat) → a_207 j = a j) → va_P (dC, dI) vwCl (mG ad ca g a_207) H → va_D A (mG ad ca g a_207) → va_S A s.heap H locs → lv_has ls 8 [(7, .int (iI z_45)), (6, .int (iI v6_149)), (5, .int (iI v5_137)), (4, .int (iI 301)), (3, .int (iI v3_32)), (0, .ref (ad 0)), (1, .int (iI p1)), (2, .int (iI p2))] → W p l e ({ frames := 3, cells := 0, slots := 0, locals := 73 }) s m ([.ref (ad 0), .int (iI p1), .int (iI p2)] : List Value).toArray below meth c H locs 0 0 Q (F0 m 207 ls []) := by
                            intro a_207 H locs ls hI haA hP hD hS hl
                            refine lv_iinc (v := iI (v6_149 + 1)) (lv' := [(6, .int (iI (v6_149 + 1))), (7, .int (iI z_45)), (5, .int (iI v5_137)), (4, .int (iI 301)), (3, .int (iI v3_32)), (0, .ref (ad 0)), (1, .int (iI p1)), (2, .int (iI p2))]) hx hb dX13_thief_207 hl (k := 1) rfl (iI_add _ _) (by decide) rfl (fun ls hl => ?_)
                            refine lv_goto (tgt := 149) hx hb dX13_thief_210 (by decide) ?_
                            exact ih149 (v6_149 + 1) a_207 H locs ls (by omega) (by omega) hI haA (by omega) hP hD hS (lv_sub hl [0, 2, 3, 4, 5, 6, 7] rfl)
                          refine xr_if_le (tgt := 207) hx hb dX13_thief_187 (by decide) (by omega) (fun h_63 => ?_) (fun h_63 => ?_)
                          · exact J207 a_57 H locs ls hI haA hP hD hS hl
                          · refine lv_iload hx hb dX13_thief_190 (lv_at hl 1 rfl) ?_
                            refine xr_if_le (tgt := 207) hx hb dX13_thief_192 (by decide) (by omega) (fun h_64 => ?_) (fun h_64 => ?_)
                            · exact J207 a_57 H locs ls hI haA hP hD hS hl
                            · refine lv_aload_n hx hb dX13_thief_195 rfl (lv_at hl 5 rfl) ?_
                              refine lv_iload hx hb dX13_thief_196 (lv_at hl 0 rfl) ?_
                              refine lv_iload hx hb dX13_thief_198 (lv_at hl 3 rfl) ?_
                              refine lv_iload hx hb dX13_thief_200 (lv_at hl 2 rfl) ?_
                              refine lv_iload hx hb dX13_thief_202 (lv_at hl 1 rfl) ?_
                              refine jcg_v (va_runV (As := [.int (iI z_45), .int (iI 301), .int (iI v5_137), .int (iI v6_149)]) (rest := []) ⟨hx, hb, hml, hown, hts⟩ (sX13_laysOn l dC dI _ ad ca g a_57 z_45 301 v5_137 v6_149 hI (by omega) (by omega) (by omega) (by omega) (by omega) (by omega) (by omega) (by omega)) (cwV 4 hts (jgoodV m_283 m_410 m_411 m_503 m_172) rfl rfl rfl (by decide +kernel) ⟨(Nat.le_of_ble_eq_true rfl), (Nat.le_of_ble_eq_true rfl)⟩) ⟨jw_blind, va_recv hK hP (ci := 13) (q0 := 0) rfl rfl, fun U hU hW => ⟨rfl, jw_of hU hW hP hK hD⟩⟩ rfl rfl hl.1 rfl (lv_room (Nat.le_of_ble_eq_true rfl)) dX13_thief_204 ⟨(Nat.le_of_ble_eq_true rfl), (Nat.le_of_ble_eq_true rfl)⟩) hD hS hA (fun u_70 H locs w_66 hP hK hD hS => ?_)
                              obtain ⟨g_68, a_69⟩ := u_70
                              obtain ⟨e_72, hI, hfr_71⟩ := w_66
                              have hP : va_P (dC, dI) vwCl (mG ad ca g_68 a_69) H := hP
                              have hD : va_D A (mG ad ca g_68 a_69) := hD
                              have e_72 : g = g_68 := e_72.symm
                              subst e_72
                              have haA : ∀ j, j ∉ ([76, 77, 78] : List Nat) → a_69 j = a j := fun j h => (hfr_71 j (fun q => h (by first | exact q | (simp only [List.mem_cons, List.not_mem_nil, or_false] at q ⊢ <;> omega)))).trans (haA j h)
                              exact J207 a_69 H locs ls hI haA hP hD hS hl
                    exact L149 (((v3_32 - 0 + 1 : Int)).toNat + 1) 0 a_137 H locs ls (by omega) (by omega) hI haA (by omega) hP hD hS hl
              exact L137 ((((g 78) - 0 + 1 : Int)).toNat + 1) 0 a_32 H locs ls (by omega) hI haA (by omega) hP hD hS hl
            · refine lv_iconst (v := iI 0) hx hb dX13_thief_41 rfl ?_
              refine lv_istore (lv' := [(5, .int (iI 0)), (4, .int (iI v4_32)), (3, .int (iI v3_32)), (0, .ref (ad 0)), (1, .int (iI p1)), (2, .int (iI p2))]) hx hb dX13_thief_42 hl (by decide) rfl (fun ls hl => ?_)
              have L44 : ∀ (n44 : Nat) (v5_44 v3_44 : Int) (a_44 : Nat → Int → Int) (H : Heap) (locs : List Loc) (ls : Array Slot), (0 ≤ v5_44 ∧ v5_44 ≤ 2147483647) → ((-2147483648) ≤ v3_44 ∧ v3_44 ≤ 2147483647) → (0 ≤ v3_44) → (v3_44 ≤ tc (a 50) v4_32 v5_44 (g 56).toNat) → (mI g a_44) → (∀ j, j ∉ ([76, 77, 78] : List Nat) → a_44 j = a j) → (0 < (n44 : Int) ∧ (g 56) - v5_44 < (n44 : Int)) → va_P (dC, dI) vwCl (mG ad ca g a_44) H → va_D A (mG ad ca g a_44) → va_S A s.heap H locs → lv_has ls 8 [(5, .int (iI v5_44)), (4, .int (iI v4_32)), (3, .int (iI v3_44)), (0, .ref (ad 0)), (1, .int (iI p1)), (2, .int (iI p2))] → W p l e ({ frames := 3, cells := 0, slots := 0, locals := 73 }) s m ([.ref (ad 0), .int (iI p1), .int (iI p2)] : List Value).toArray below meth c H locs 0 0 Q (F0 m 44 ls []) := by
                intro n44
                induction n44 with
                | zero =>
                  intro v5_44 v3_44 a_44 H locs ls h_73 h_74 h_75 h_76 hI haA hm44 hP hD hS hl
                  exfalso; omega
                | succ n44 ih44 =>
                  intro v5_44 v3_44 a_44 H locs ls h_77 h_78 h_79 h_80 hI haA hm44 hP hD hS hl
                  refine lv_iload hx hb dX13_thief_44 (lv_at hl 0 rfl) ?_
                  refine lv_aload_n hx hb dX13_thief_46 rfl (lv_at hl 3 rfl) ?_
                  refine gf_lines hx hb hj hown hK hP hI dX13_thief_47 (fun h_81 => ?_)
                  refine xr_icmp_ge (tgt := 123) hx hb dX13_thief_50 (by decide) (by omega) (by omega) (fun h_82 => ?_) (fun h_82 => ?_)
                  · have q4 := tc_p (a 50) (v4_32) (v5_44) (g 56).toNat (by omega)
                    refine lv_iinc (v := iI (v4_32 + 1)) (lv' := [(4, .int (iI (v4_32 + 1))), (5, .int (iI v5_44)), (3, .int (iI v3_44)), (0, .ref (ad 0)), (1, .int (iI p1)), (2, .int (iI p2))]) hx hb dX13_thief_123 hl (k := 1) rfl (iI_add _ _) (by decide) rfl (fun ls hl => ?_)
                    refine lv_goto (tgt := 32) hx hb dX13_thief_126 (by decide) ?_
                    exact ih32 (v4_32 + 1) v3_44 a_44 H locs ls (by omega) (by omega) (by omega) (by omega) hI haA (by omega) hP hD hS (lv_sub hl [0, 2, 3, 4, 5] rfl)
                  · have q1 := tc_s (a 50) (v4_32) (v5_44) (by omega) (g 56).toNat (by omega)
                    have q2 := (tc_le (a 50) (v4_32) (v5_44 + 1) (g 56).toNat).2
                    have q3 : (0 : Int) ≤ (if a 50 (v5_44) = v4_32 then 1 else 0) ∧ (if a 50 (v5_44) = v4_32 then (1 : Int) else 0) ≤ 1 := by split <;> omega
                    refine lv_aload_n hx hb dX13_thief_53 rfl (lv_at hl 3 rfl) ?_
                    refine gf_setWith hx hb hj hown hK hP dX13_thief_54 ?_
                    refine lv_aload_n hx hb dX13_thief_57 rfl (lv_at hl 3 rfl) ?_
                    refine gf_lineOf hx hb hj hown hK hP dX13_thief_58 ?_
                    refine lv_iload hx hb dX13_thief_61 (lv_at hl 0 rfl) ?_
                    refine ld_lineOf hx hb hK hP hI (by omega) (by omega) dX13_thief_63 (fun h_83 => ?_)
                    refine ld_setWith hx hb hK hP hI (by omega) (by omega) dX13_thief_64 (fun h_84 => ?_)
                    refine lv_iload_n hx hb dX13_thief_65 rfl (lv_at hl 4 rfl) ?_
                    have J117 : ∀ (v3_117 : Int) (a_117 : Nat → Int → Int) (H : Heap) (locs : List Loc) (ls : Array Slot), ((-2147483648) ≤ v3_117 ∧ v3_117 ≤ 2147483647) → (0 ≤ v3_117) → (v3_117 ≤ tc (a 50) v4_32 (v5_44 + 1) (g 56).toNat) → (mI g a_117) → (∀ j, j ∉ ([76, 77, 78] : List Nat) → a_117 j = a j) → va_P (dC, dI) vwCl (mG ad ca g a_117) H → va_D A (mG ad ca g a_117) → va_S A s.heap H locs → lv_has ls 8 [(5, .int (iI v5_44)), (4, .int (iI v4_32)), (3, .int (iI v3_117)), (0, .ref (ad 0)), (1, .int (iI p1)), (2, .int (iI p2))] → W p l e ({ frames := 3, cells := 0, slots := 0, locals := 73 }) s m ([.ref (ad 0), .int (iI p1), .int (iI p2)] : List Value).toArray below meth c H locs 0 0 Q (F0 m 117 ls []) := by
                      intro v3_117 a_117 H locs ls h_85 h_86 h_87 hI haA hP hD hS hl
                      refine lv_iinc (v := iI (v5_44 + 1)) (lv' := [(5, .int (iI (v5_44 + 1))), (4, .int (iI v4_32)), (3, .int (iI v3_117)), (0, .ref (ad 0)), (1, .int (iI p1)), (2, .int (iI p2))]) hx hb dX13_thief_117 hl (k := 0) rfl (iI_add _ _) (by decide) rfl (fun ls hl => ?_)
                      refine lv_goto (tgt := 44) hx hb dX13_thief_120 (by decide) ?_
                      exact ih44 (v5_44 + 1) v3_117 a_117 H locs ls (by omega) (by omega) (by omega) (by omega) hI haA (by omega) hP hD hS hl
                    refine xr_icmp_ne (tgt := 117) hx hb dX13_thief_66 (by decide) (by omega) (by omega) (fun h_88 => ?_) (fun h_88 => ?_)
                    · exact J117 v3_44 a_44 H locs ls (by omega) (by omega) (by omega) hI haA hP hD hS hl
                    · refine lv_aload_n hx hb dX13_thief_69 rfl (lv_at hl 3 rfl) ?_
                      refine gf_linePage hx hb hj hown hK hP dX13_thief_70 ?_
                      refine lv_iload hx hb dX13_thief_73 (lv_at hl 0 rfl) ?_
                      refine ld_linePage hx hb hK hP hI (by omega) (by omega) dX13_thief_75 (fun h_89 => ?_)
                      refine lv_iconst (v := iI (-1)) hx hb dX13_thief_76 rfl ?_
                      refine xr_icmp_eq (tgt := 117) hx hb dX13_thief_77 (by decide) (by omega) (by omega) (fun h_90 => ?_) (fun h_90 => ?_)
                      · exact J117 v3_44 a_44 H locs ls (by omega) (by omega) (by omega) hI haA hP hD hS hl
                      · refine lv_aload_n hx hb dX13_thief_80 rfl (lv_at hl 3 rfl) ?_
                        refine gf_linePlace hx hb hj hown hK hP dX13_thief_81 ?_
                        refine lv_iload hx hb dX13_thief_84 (lv_at hl 0 rfl) ?_
                        refine ld_linePlace hx hb hK hP hI (by omega) (by omega) dX13_thief_86 (fun h_91 => ?_)
                        refine lv_iload hx hb dX13_thief_87 (lv_at hl 1 rfl) ?_
                        refine xr_icmp_ne (tgt := 117) hx hb dX13_thief_89 (by decide) (by omega) (by omega) (fun h_92 => ?_) (fun h_92 => ?_)
                        · exact J117 v3_44 a_44 H locs ls (by omega) (by omega) (by omega) hI haA hP hD hS hl
                        · have c50 := congrFun (haA 50 (by decide)) (v5_44)
                          rw [if_pos (show a 50 (v5_44) = v4_32 by omega)] at q1
                          refine lv_aload_n hx hb dX13_thief_92 rfl (lv_at hl 3 rfl) ?_
                          refine gf_lineFact hx hb hj hown hK hP dX13_thief_93 ?_
                          refine lv_iload hx hb dX13_thief_96 (lv_at hl 0 rfl) ?_
                          refine ld_lineFact hx hb hK hP hI (by omega) (by omega) dX13_thief_98 (fun h_93 => ?_)
                          refine lv_iconst (v := iI (-1)) hx hb dX13_thief_99 rfl ?_
                          refine xr_icmp_ne (tgt := 106) hx hb dX13_thief_100 (by decide) (by omega) (by omega) (fun h_94 => ?_) (fun h_94 => ?_)
                          · refine lv_aload_n hx hb dX13_thief_106 rfl (lv_at hl 3 rfl) ?_
                            refine gf_laidLine hx hb hj hown hK hP dX13_thief_107 ?_
                            refine lv_iload_n hx hb dX13_thief_110 rfl (lv_at hl 2 rfl) ?_
                            refine lv_iload hx hb dX13_thief_111 (lv_at hl 0 rfl) ?_
                            refine st_laidLine hx hb hK hP hD hS hI (by omega) (by omega) (by omega) (by omega) dX13_thief_113 (fun a_95 H locs e_96 e_97 hI hP hD hS => ?_)
                            have haA : ∀ j, j ∉ ([76, 77, 78] : List Nat) → a_95 j = a j := fun j h => (e_96 j (fun q => h (q ▸ (by decide : 76 ∈ ([76, 77, 78] : List Nat))))).trans (haA j h)
                            refine lv_iinc (v := iI (v3_44 + 1)) (lv' := [(3, .int (iI (v3_44 + 1))), (5, .int (iI v5_44)), (4, .int (iI v4_32)), (0, .ref (ad 0)), (1, .int (iI p1)), (2, .int (iI p2))]) hx hb dX13_thief_114 hl (k := 2) rfl (iI_add _ _) (by decide) rfl (fun ls hl => ?_)
                            exact J117 (v3_44 + 1) a_95 H locs ls (by omega) (by omega) (by omega) hI haA hP hD hS (lv_sub hl [1, 2, 0, 3, 4, 5] rfl)
                          · refine lv_goto (tgt := 117) hx hb dX13_thief_103 (by decide) ?_
                            exact J117 v3_44 a_44 H locs ls (by omega) (by omega) (by omega) hI haA hP hD hS hl
              exact L44 ((((g 56) - 0 : Int)).toNat + 1) 0 v3_32 a_32 H locs ls (by omega) (by omega) (by omega) (by omega) hI haA (by omega) hP hD hS hl
        exact L32 ((((g 56) - 0 : Int)).toNat + 1) 0 0 a H locs ls (by omega) (by omega) (by omega) (by omega) hI haA (by omega) hP hD hS hl
      · refine lv_iconst (v := iI (-1)) hx hb dX13_thief_25 rfl ?_
        rw [← hQ]
        exact W.iret (v := iI (-1)) hx hb hr (fun t ht hW => ⟨⟨iI (-1), (g, a), rfl, ⟨(-1), rfl, rfl, hI, haA, by omega⟩, by rw [ht]; exact hP, va_K.moved hW.alike hK, hD⟩, hS.F ht⟩) hS.2.2 dX13_thief_26
