set_option maxHeartbeats 2000000 in
set_option maxRecDepth 100000 in
theorem sX13_lengths (l : Launch) (dC : Nat → ClassId) (dI : Nat → Nat → Nat) (sz : Nat) (ad : Nat → Nat) (ca : Nat → ClassId) (g : Nat → Int) (a : Nat → Int → Int) (p1 : Int) (p2 : Int) (hI : mI g a) (q1 : rg p1) (q2 : rg p2) : Met l yX13_lengths (jk yX13_lengths cX13_lengths 3 (some .int)) ({ frames := 9, cells := 0, slots := 0, locals := 249 }) (va_Pc [.ref (ad 0), .int (iI p1), .int (iI p2)] (jw_P (dC, dI) (mG ad ca g a) (mT ca) sz)) (va_Qi (fun (r : Int32) (u : (Nat → Int) × (Nat → Int → Int)) => ∃ z : Int, r = iI z ∧ (mI u.1 u.2) ∧ (∀ j, j ∉ ([90] : List Nat) → u.1 j = g j) ∧ (∀ j, j ∉ ([62, 63, 64, 65, 67, 68, 69, 70] : List Nat) → u.2 j = a j) ∧ (rg z)) (fun u t => va_P (dC, dI) vwCl (mG ad ca u.1 u.2) t.heap ∧ va_K (dC, dI) vwCl (mT ca) t ∧ va_D (va_A (mG ad ca g a) sz) (mG ad ca u.1 u.2)) (va_A (mG ad ca g a) sz)) 0 0 (va_A (mG ad ca g a) sz) := by
  refine Met.ofW (cc := cX13_lengths) (maxL := 3) (ret := (some .int)) (by decide) rfl ?_
  intro p e s m args below meth c s₁ B hml hv
  obtain ⟨rfl, hsz, hP, hK, hD0⟩ := hv
  have hx := B.exec
  have hb := B.bytes
  have hr := B.returns
  have hts := atoms_spec (ws := (jk yX13_lengths cX13_lengths 3 (some .int))) B.pre
  have hj : ∀ w ∈ jw, w.before ([.ref (ad 0), .int (iI p1), .int (iI p2)] : List Value).toArray s = true := fun w h => hts w (jm h)
  have hown : s.vm.findClass RX13 = some m.cls := findClass_of_methodNamed B.named
  subst hsz
  have hD := hD0.self (sz := s.heap.size)
  generalize hAe : (va_A (mG ad ca g a) s.heap.size) = A at hD ⊢
  have hA : ∀ q : Nat, s.heap.size ≤ q → A q := fun q h => by rw [← hAe]; exact Or.inr h
  have hS : va_S A s.heap s.heap [] := va_S.rf
  have hP : va_P (dC, dI) vwCl (mG ad ca g a) s.heap := hP
  have hfA : ∀ j, j ∉ ([90] : List Nat) → g j = g j := fun _ _ => rfl
  have haA : ∀ j, j ∉ ([62, 63, 64, 65, 67, 68, 69, 70] : List Nat) → a j = a j := fun _ _ => rfl
  have hl := lv_entry ([.ref (ad 0), .int (iI p1), .int (iI p2)]) (n := 3) (Nat.le_of_ble_eq_true rfl)
  rw [lg_entry_eq]
  generalize (lg_sl ([.ref (ad 0), .int (iI p1), .int (iI p2)]) ++ List.replicate (3 - (lg_sl ([.ref (ad 0), .int (iI p1), .int (iI p2)])).length) Slot.unset).toArray = ls at hl ⊢
  have hl : lv_has ls 3 [(0, .ref (ad 0)), (1, .int (iI p1)), (2, .int (iI p2))] := hl
  generalize hQ : MQ below (va_Qi (fun (r : Int32) (u : (Nat → Int) × (Nat → Int → Int)) => ∃ z : Int, r = iI z ∧ (mI u.1 u.2) ∧ (∀ j, j ∉ ([90] : List Nat) → u.1 j = g j) ∧ (∀ j, j ∉ ([62, 63, 64, 65, 67, 68, 69, 70] : List Nat) → u.2 j = a j) ∧ (rg z)) (fun u t => va_P (dC, dI) vwCl (mG ad ca u.1 u.2) t.heap ∧ va_K (dC, dI) vwCl (mT ca) t ∧ va_D A (mG ad ca u.1 u.2)) A) ([.ref (ad 0), .int (iI p1), .int (iI p2)] : List Value).toArray s 0 0 A = Q
  suffices ST : ∀ (H : Heap) (locs : List Loc), va_P (dC, dI) vwCl (mG ad ca g a) H → va_S A s.heap H locs → W p l e ({ frames := 9, cells := 0, slots := 0, locals := 249 }) s m ([.ref (ad 0), .int (iI p1), .int (iI p2)] : List Value).toArray below meth c H locs 0 0 Q (F0 m 0 ls []) from ST _ _ hP hS
  clear hP hS
  intro H locs hP hS
  refine lv_aload_n hx hb dX13_lengths_0 rfl (lv_at hl 0 rfl) ?_
  refine lv_iload_n hx hb dX13_lengths_1 rfl (lv_at hl 1 rfl) ?_
  refine lv_iload_n hx hb dX13_lengths_2 rfl (lv_at hl 2 rfl) ?_
  refine jcg_i (va_runV (As := [.int (iI p1), .int (iI p2)]) (rest := []) ⟨hx, hb, hml, hown, hts⟩ (sX13_bringsTo l dC dI _ ad ca g a p1 p2 hI (by omega) (by omega)) (cwV 2 hts (jgoodV m_280 m_300 m_301 m_503 m_115) rfl rfl rfl (by decide +kernel) ⟨(Nat.le_of_ble_eq_true rfl), (Nat.le_of_ble_eq_true rfl)⟩) ⟨jw_blind, va_recv hK hP (ci := 13) (q0 := 0) rfl rfl, fun U hU hW => ⟨rfl, jw_of hU hW hP hK hD⟩⟩ rfl rfl hl.1 rfl (lv_room (Nat.le_of_ble_eq_true rfl)) dX13_lengths_3 ⟨(Nat.le_of_ble_eq_true rfl), (Nat.le_of_ble_eq_true rfl)⟩) hD hS hA (fun r_1 u_7 H locs w_2 hP hK hD hS => ?_)
  obtain ⟨g_5, a_6⟩ := u_7
  obtain ⟨z_3, rfl, hI, hfr_8, hfr_9, h_4⟩ := w_2
  have hP : va_P (dC, dI) vwCl (mG ad ca g_5 a_6) H := hP
  have hD : va_D A (mG ad ca g_5 a_6) := hD
  have hfA : ∀ j, j ∉ ([90] : List Nat) → g_5 j = g j := fun j h => (hfr_8 j (fun q => h (by first | exact q | (simp only [List.mem_cons, List.not_mem_nil, or_false] at q ⊢ <;> omega)))).trans (hfA j h)
  have haA : ∀ j, j ∉ ([62, 63, 64, 65, 67, 68, 69, 70] : List Nat) → a_6 j = a j := fun j h => (hfr_9 j (fun q => h (by first | exact q | (simp only [List.mem_cons, List.not_mem_nil, or_false] at q ⊢ <;> omega)))).trans (haA j h)
  refine lv_iconst (v := iI (-1)) hx hb dX13_lengths_6 rfl ?_
  refine xr_icmp_ne (tgt := 14) hx hb dX13_lengths_7 (by decide) (by omega) (by omega) (fun h_11 => ?_) (fun h_11 => ?_)
  · refine lv_aload_n hx hb dX13_lengths_14 rfl (lv_at hl 0 rfl) ?_
    refine gf_differs hx hb hj hown hK hP hI dX13_lengths_15 (fun h_12 => ?_)
    rw [← hQ]
    exact W.iret (v := iI (g_5 90)) hx hb hr (fun t ht hW => ⟨⟨iI (g_5 90), (g_5, a_6), rfl, ⟨g_5 90, rfl, hI, hfA, haA, by omega⟩, by rw [ht]; exact hP, va_K.moved hW.alike hK, hD⟩, hS.F ht⟩) hS.2.2 dX13_lengths_18
  · refine lv_iconst (v := iI (-1)) hx hb dX13_lengths_10 rfl ?_
    refine lv_goto (tgt := 18) hx hb dX13_lengths_11 (by decide) ?_
    rw [← hQ]
    exact W.iret (v := iI (-1)) hx hb hr (fun t ht hW => ⟨⟨iI (-1), (g_5, a_6), rfl, ⟨(-1), rfl, hI, hfA, haA, by omega⟩, by rw [ht]; exact hP, va_K.moved hW.alike hK, hD⟩, hS.F ht⟩) hS.2.2 dX13_lengths_18
set_option maxHeartbeats 2000000 in
set_option maxRecDepth 100000 in
theorem sX13_length (l : Launch) (dC : Nat → ClassId) (dI : Nat → Nat → Nat) (sz : Nat) (ad : Nat → Nat) (ca : Nat → ClassId) (g : Nat → Int) (a : Nat → Int → Int) (p1 : Int) (p2 : Int) (hI : mI g a) (q1 : rg p1) (q2 : rg p2) : Met l yX13_length (jk yX13_length cX13_length 3 (some .int)) ({ frames := 9, cells := 0, slots := 0, locals := 249 }) (va_Pc [.ref (ad 0), .int (iI p1), .int (iI p2)] (jw_P (dC, dI) (mG ad ca g a) (mT ca) sz)) (va_Qi (fun (r : Int32) (u : (Nat → Int) × (Nat → Int → Int)) => ∃ z : Int, r = iI z ∧ (mI u.1 u.2) ∧ (∀ j, j ∉ ([90] : List Nat) → u.1 j = g j) ∧ (∀ j, j ∉ ([62, 63, 64, 65, 67, 68, 69, 70] : List Nat) → u.2 j = a j) ∧ (rg z)) (fun u t => va_P (dC, dI) vwCl (mG ad ca u.1 u.2) t.heap ∧ va_K (dC, dI) vwCl (mT ca) t ∧ va_D (va_A (mG ad ca g a) sz) (mG ad ca u.1 u.2)) (va_A (mG ad ca g a) sz)) 0 0 (va_A (mG ad ca g a) sz) := by
  refine Met.ofW (cc := cX13_length) (maxL := 3) (ret := (some .int)) (by decide) rfl ?_
  intro p e s m args below meth c s₁ B hml hv
  obtain ⟨rfl, hsz, hP, hK, hD0⟩ := hv
  have hx := B.exec
  have hb := B.bytes
  have hr := B.returns
  have hts := atoms_spec (ws := (jk yX13_length cX13_length 3 (some .int))) B.pre
  have hj : ∀ w ∈ jw, w.before ([.ref (ad 0), .int (iI p1), .int (iI p2)] : List Value).toArray s = true := fun w h => hts w (jm h)
  have hown : s.vm.findClass RX13 = some m.cls := findClass_of_methodNamed B.named
  subst hsz
  have hD := hD0.self (sz := s.heap.size)
  generalize hAe : (va_A (mG ad ca g a) s.heap.size) = A at hD ⊢
  have hA : ∀ q : Nat, s.heap.size ≤ q → A q := fun q h => by rw [← hAe]; exact Or.inr h
  have hS : va_S A s.heap s.heap [] := va_S.rf
  have hP : va_P (dC, dI) vwCl (mG ad ca g a) s.heap := hP
  have hfA : ∀ j, j ∉ ([90] : List Nat) → g j = g j := fun _ _ => rfl
  have haA : ∀ j, j ∉ ([62, 63, 64, 65, 67, 68, 69, 70] : List Nat) → a j = a j := fun _ _ => rfl
  have hl := lv_entry ([.ref (ad 0), .int (iI p1), .int (iI p2)]) (n := 3) (Nat.le_of_ble_eq_true rfl)
  rw [lg_entry_eq]
  generalize (lg_sl ([.ref (ad 0), .int (iI p1), .int (iI p2)]) ++ List.replicate (3 - (lg_sl ([.ref (ad 0), .int (iI p1), .int (iI p2)])).length) Slot.unset).toArray = ls at hl ⊢
  have hl : lv_has ls 3 [(0, .ref (ad 0)), (1, .int (iI p1)), (2, .int (iI p2))] := hl
  generalize hQ : MQ below (va_Qi (fun (r : Int32) (u : (Nat → Int) × (Nat → Int → Int)) => ∃ z : Int, r = iI z ∧ (mI u.1 u.2) ∧ (∀ j, j ∉ ([90] : List Nat) → u.1 j = g j) ∧ (∀ j, j ∉ ([62, 63, 64, 65, 67, 68, 69, 70] : List Nat) → u.2 j = a j) ∧ (rg z)) (fun u t => va_P (dC, dI) vwCl (mG ad ca u.1 u.2) t.heap ∧ va_K (dC, dI) vwCl (mT ca) t ∧ va_D A (mG ad ca u.1 u.2)) A) ([.ref (ad 0), .int (iI p1), .int (iI p2)] : List Value).toArray s 0 0 A = Q
  suffices ST : ∀ (H : Heap) (locs : List Loc), va_P (dC, dI) vwCl (mG ad ca g a) H → va_S A s.heap H locs → W p l e ({ frames := 9, cells := 0, slots := 0, locals := 249 }) s m ([.ref (ad 0), .int (iI p1), .int (iI p2)] : List Value).toArray below meth c H locs 0 0 Q (F0 m 0 ls []) from ST _ _ hP hS
  clear hP hS
  intro H locs hP hS
  refine lv_aload_n hx hb dX13_length_0 rfl (lv_at hl 0 rfl) ?_
  refine lv_iload_n hx hb dX13_length_1 rfl (lv_at hl 1 rfl) ?_
  refine jc_i (va_runV (As := [.int (iI p1)]) (rest := []) ⟨hx, hb, hml, hown, hts⟩ (sX13_isArticle l dC dI _ ad ca g a p1 hI (by omega)) (cwV 1 hts (jgoodV m_266 m_373 m_374 m_503 m_152) rfl rfl rfl (by decide +kernel) ⟨(Nat.le_of_ble_eq_true rfl), (Nat.le_of_ble_eq_true rfl)⟩) ⟨jw_blind, va_recv hK hP (ci := 13) (q0 := 0) rfl rfl, fun U hU hW => ⟨rfl, jw_of hU hW hP hK hD⟩⟩ rfl rfl hl.1 rfl (lv_room (Nat.le_of_ble_eq_true rfl)) dX13_length_2 ⟨(Nat.le_of_ble_eq_true rfl), (Nat.le_of_ble_eq_true rfl)⟩) hP hS hA (fun r_1 H locs w_2 hP hS => ?_)
  obtain ⟨z_3, rfl, h_4, h_5⟩ := w_2
  have b_6 : 0 ≤ g 37 ∧ g 37 ≤ 60 := hI.1 37
  refine xr_if_eq (tgt := 37) hx hb dX13_length_5 (by decide) (by omega) (fun h_7 => ?_) (fun h_7 => ?_)
  · refine lv_iconst (v := iI (-1)) hx hb dX13_length_37 rfl ?_
    rw [← hQ]
    exact W.iret (v := iI (-1)) hx hb hr (fun t ht hW => ⟨⟨iI (-1), (g, a), rfl, ⟨(-1), rfl, hI, hfA, haA, by omega⟩, by rw [ht]; exact hP, va_K.moved hW.alike hK, hD⟩, hS.F ht⟩) hS.2.2 dX13_length_38
  · refine lv_aload_n hx hb dX13_length_8 rfl (lv_at hl 0 rfl) ?_
    refine gf_isStruck hx hb hj hown hK hP dX13_length_9 ?_
    refine lv_iload_n hx hb dX13_length_12 rfl (lv_at hl 1 rfl) ?_
    refine ld_isStruck hx hb hK hP hI (by omega) (by omega) dX13_length_13 (fun h_8 => ?_)
    refine xr_if_ne (tgt := 37) hx hb dX13_length_14 (by decide) (by omega) (fun h_9 => ?_) (fun h_9 => ?_)
    · refine lv_iconst (v := iI (-1)) hx hb dX13_length_37 rfl ?_
      rw [← hQ]
      exact W.iret (v := iI (-1)) hx hb hr (fun t ht hW => ⟨⟨iI (-1), (g, a), rfl, ⟨(-1), rfl, hI, hfA, haA, by omega⟩, by rw [ht]; exact hP, va_K.moved hW.alike hK, hD⟩, hS.F ht⟩) hS.2.2 dX13_length_38
    · refine lv_aload_n hx hb dX13_length_17 rfl (lv_at hl 0 rfl) ?_
      refine gf_setWith hx hb hj hown hK hP dX13_length_18 ?_
      refine lv_iload_n hx hb dX13_length_21 rfl (lv_at hl 1 rfl) ?_
      refine ld_setWith hx hb hK hP hI (by omega) (by omega) dX13_length_22 (fun h_10 => ?_)
      refine lv_iconst (v := iI (-1)) hx hb dX13_length_23 rfl ?_
      refine xr_icmp_ne (tgt := 37) hx hb dX13_length_24 (by decide) (by omega) (by omega) (fun h_11 => ?_) (fun h_11 => ?_)
      · refine lv_iconst (v := iI (-1)) hx hb dX13_length_37 rfl ?_
        rw [← hQ]
        exact W.iret (v := iI (-1)) hx hb hr (fun t ht hW => ⟨⟨iI (-1), (g, a), rfl, ⟨(-1), rfl, hI, hfA, haA, by omega⟩, by rw [ht]; exact hP, va_K.moved hW.alike hK, hD⟩, hS.F ht⟩) hS.2.2 dX13_length_38
      · refine lv_aload_n hx hb dX13_length_27 rfl (lv_at hl 0 rfl) ?_
        refine lv_iload_n hx hb dX13_length_28 rfl (lv_at hl 1 rfl) ?_
        refine jcg_i (va_runV (As := [.int (iI p1)]) (rest := []) ⟨hx, hb, hml, hown, hts⟩ (sX13_volumeOf l dC dI _ ad ca g a p1 hI (by omega) (by omega)) (cwV 1 hts (jgoodV m_257 m_494 m_495 m_503 m_215) rfl rfl rfl (by decide +kernel) ⟨(Nat.le_of_ble_eq_true rfl), (Nat.le_of_ble_eq_true rfl)⟩) ⟨jw_blind, va_recv hK hP (ci := 13) (q0 := 0) rfl rfl, fun U hU hW => ⟨rfl, jw_of hU hW hP hK hD⟩⟩ rfl rfl hl.1 rfl (lv_room (Nat.le_of_ble_eq_true rfl)) dX13_length_29 ⟨(Nat.le_of_ble_eq_true rfl), (Nat.le_of_ble_eq_true rfl)⟩) hD hS hA (fun r_12 u_18 H locs w_13 hP hK hD hS => ?_)
        obtain ⟨g_16, a_17⟩ := u_18
        obtain ⟨z_14, rfl, e_20, hI, hfr_19, h_15⟩ := w_13
        have hP : va_P (dC, dI) vwCl (mG ad ca g_16 a_17) H := hP
        have hD : va_D A (mG ad ca g_16 a_17) := hD
        have e_20 : g = g_16 := e_20.symm
        subst e_20
        have haA : ∀ j, j ∉ ([62, 63, 64, 65, 67, 68, 69, 70] : List Nat) → a_17 j = a j := fun j h => (hfr_19 j (fun q => h (by first | exact q | (simp only [List.mem_cons, List.not_mem_nil, or_false] at q ⊢ <;> omega)))).trans (haA j h)
        refine lv_bipush (v := iI 6) hx hb dX13_length_32 rfl ?_
        refine xr_icmp_ne (tgt := 39) hx hb dX13_length_34 (by decide) (by omega) (by omega) (fun h_21 => ?_) (fun h_21 => ?_)
        · refine lv_aload_n hx hb dX13_length_39 rfl (lv_at hl 0 rfl) ?_
          refine lv_aload_n hx hb dX13_length_40 rfl (lv_at hl 0 rfl) ?_
          refine lv_iload_n hx hb dX13_length_41 rfl (lv_at hl 1 rfl) ?_
          refine jcg_i (va_runV (As := [.int (iI p1)]) (rest := [.ref (ad 0)]) ⟨hx, hb, hml, hown, hts⟩ (sX13_volumeOf l dC dI _ ad ca g a_17 p1 hI (by omega) (by omega)) (cwV 1 hts (jgoodV m_257 m_494 m_495 m_503 m_215) rfl rfl rfl (by decide +kernel) ⟨(Nat.le_of_ble_eq_true rfl), (Nat.le_of_ble_eq_true rfl)⟩) ⟨jw_blind, va_recv hK hP (ci := 13) (q0 := 0) rfl rfl, fun U hU hW => ⟨rfl, jw_of hU hW hP hK hD⟩⟩ rfl rfl hl.1 rfl (lv_room (Nat.le_of_ble_eq_true rfl)) dX13_length_42 ⟨(Nat.le_of_ble_eq_true rfl), (Nat.le_of_ble_eq_true rfl)⟩) hD hS hA (fun r_22 u_28 H locs w_23 hP hK hD hS => ?_)
          obtain ⟨g_26, a_27⟩ := u_28
          obtain ⟨z_24, rfl, e_30, hI, hfr_29, h_25⟩ := w_23
          have hP : va_P (dC, dI) vwCl (mG ad ca g_26 a_27) H := hP
          have hD : va_D A (mG ad ca g_26 a_27) := hD
          have e_30 : g = g_26 := e_30.symm
          subst e_30
          have haA : ∀ j, j ∉ ([62, 63, 64, 65, 67, 68, 69, 70] : List Nat) → a_27 j = a j := fun j h => (hfr_29 j (fun q => h (by first | exact q | (simp only [List.mem_cons, List.not_mem_nil, or_false] at q ⊢ <;> omega)))).trans (haA j h)
          refine lv_iload_n hx hb dX13_length_45 rfl (lv_at hl 2 rfl) ?_
          refine jcg_i (va_runV (As := [.int (iI z_24), .int (iI p2)]) (rest := []) ⟨hx, hb, hml, hown, hts⟩ (sX13_bringsTo l dC dI _ ad ca g a_27 z_24 p2 hI (by omega) (by omega)) (cwV 2 hts (jgoodV m_280 m_300 m_301 m_503 m_115) rfl rfl rfl (by decide +kernel) ⟨(Nat.le_of_ble_eq_true rfl), (Nat.le_of_ble_eq_true rfl)⟩) ⟨jw_blind, va_recv hK hP (ci := 13) (q0 := 0) rfl rfl, fun U hU hW => ⟨rfl, jw_of hU hW hP hK hD⟩⟩ rfl rfl hl.1 rfl (lv_room (Nat.le_of_ble_eq_true rfl)) dX13_length_46 ⟨(Nat.le_of_ble_eq_true rfl), (Nat.le_of_ble_eq_true rfl)⟩) hD hS hA (fun r_31 u_37 H locs w_32 hP hK hD hS => ?_)
          obtain ⟨g_35, a_36⟩ := u_37
          obtain ⟨z_33, rfl, hI, hfr_38, hfr_39, h_34⟩ := w_32
          have hP : va_P (dC, dI) vwCl (mG ad ca g_35 a_36) H := hP
          have hD : va_D A (mG ad ca g_35 a_36) := hD
          have hfA : ∀ j, j ∉ ([90] : List Nat) → g_35 j = g j := fun j h => (hfr_38 j (fun q => h (by first | exact q | (simp only [List.mem_cons, List.not_mem_nil, or_false] at q ⊢ <;> omega)))).trans (hfA j h)
          have haA : ∀ j, j ∉ ([62, 63, 64, 65, 67, 68, 69, 70] : List Nat) → a_36 j = a j := fun j h => (hfr_39 j (fun q => h (by first | exact q | (simp only [List.mem_cons, List.not_mem_nil, or_false] at q ⊢ <;> omega)))).trans (haA j h)
          refine lv_iconst (v := iI (-1)) hx hb dX13_length_49 rfl ?_
          refine xr_icmp_ne (tgt := 57) hx hb dX13_length_50 (by decide) (by omega) (by omega) (fun h_41 => ?_) (fun h_41 => ?_)
          · refine lv_aload_n hx hb dX13_length_57 rfl (lv_at hl 0 rfl) ?_
            refine gf_longs hx hb hj hown hK hP dX13_length_58 ?_
            refine lv_iload_n hx hb dX13_length_61 rfl (lv_at hl 1 rfl) ?_
            refine ld_longs hx hb hK hP hI (by omega) (by omega) dX13_length_62 (fun h_42 => ?_)
            rw [← hQ]
            exact W.iret (v := iI (a_36 70 p1)) hx hb hr (fun t ht hW => ⟨⟨iI (a_36 70 p1), (g_35, a_36), rfl, ⟨a_36 70 p1, rfl, hI, hfA, haA, by omega⟩, by rw [ht]; exact hP, va_K.moved hW.alike hK, hD⟩, hS.F ht⟩) hS.2.2 dX13_length_63
          · refine lv_iconst (v := iI (-1)) hx hb dX13_length_53 rfl ?_
            refine lv_goto (tgt := 63) hx hb dX13_length_54 (by decide) ?_
            rw [← hQ]
            exact W.iret (v := iI (-1)) hx hb hr (fun t ht hW => ⟨⟨iI (-1), (g_35, a_36), rfl, ⟨(-1), rfl, hI, hfA, haA, by omega⟩, by rw [ht]; exact hP, va_K.moved hW.alike hK, hD⟩, hS.F ht⟩) hS.2.2 dX13_length_63
        · refine lv_iconst (v := iI (-1)) hx hb dX13_length_37 rfl ?_
          rw [← hQ]
          exact W.iret (v := iI (-1)) hx hb hr (fun t ht hW => ⟨⟨iI (-1), (g, a_17), rfl, ⟨(-1), rfl, hI, hfA, haA, by omega⟩, by rw [ht]; exact hP, va_K.moved hW.alike hK, hD⟩, hS.F ht⟩) hS.2.2 dX13_length_38
