set_option maxHeartbeats 2000000 in
set_option maxRecDepth 100000 in
theorem sX13_lengths (l : Launch) (dC : Nat → ClassId) (dI : Nat → Nat → Nat) (sz : Nat) (ad : Nat → Nat) (ca : Nat → ClassId) (g : Nat → Int) (a : Nat → Int → Int) (p1 : Int) (p2 : Int) (hI : mI g a) (q1 : rg p1) (q2 : rg p2) (hrSh : rSh g a) : Met l yX13_lengths (jk yX13_lengths cX13_lengths 3 (some .int)) ({ frames := 9, cells := 0, slots := 0, locals := 232 }) (va_Pc [.ref (ad 0), .int (iI p1), .int (iI p2)] (jw_P (dC, dI) (mG ad ca g a) (mT ca) sz)) (va_Qi (fun (r : Int32) (u : (Nat → Int) × (Nat → Int → Int)) => ∃ z : Int, r = iI z ∧ (mI u.1 u.2) ∧ (∀ j, j ∉ ([90] : List Nat) → u.1 j = g j) ∧ (∀ j, j ∉ ([62, 63, 64, 65, 67, 68, 69, 70] : List Nat) → u.2 j = a j) ∧ (rg z)) (fun u t => va_P (dC, dI) vwCl (mG ad ca u.1 u.2) t.heap ∧ va_K (dC, dI) vwCl (mT ca) t ∧ va_D (va_A (mG ad ca g a) sz) (mG ad ca u.1 u.2)) (va_A (mG ad ca g a) sz)) 0 0 (va_A (mG ad ca g a) sz) := by
  refine Met.ofW (cc := cX13_lengths) (maxL := 3) (ret := (some .int)) (by decide) rfl ?_
  intro p e s m args below meth c s₁ B hml hv
  obtain ⟨rfl, hsz, hP, hK, hD0⟩ := hv
  have hx := B.exec
  have hb := B.bytes
  have hr := B.returns
  have hts := atoms_spec (ws := (jk yX13_lengths cX13_lengths 3 (some .int))) B.pre
  have hj : ∀ w ∈ jw, w.before ([.ref (ad 0), .int (iI p1), .int (iI p2)] : List Value).toArray s = true := fun w h => hts w (jm h)
  have hown : s.vm.findClass RX13 = some m.cls := findClass_of_methodNamed B.named
  subst hsz
  have hD := hD0.self (sz := s.heap.size)
  generalize hAe : (va_A (mG ad ca g a) s.heap.size) = A at hD ⊢
  have hA : ∀ q : Nat, s.heap.size ≤ q → A q := fun q h => by rw [← hAe]; exact Or.inr h
  have hS : va_S A s.heap s.heap [] := va_S.rf
  have hP : va_P (dC, dI) vwCl (mG ad ca g a) s.heap := hP
  have hfA : ∀ j, j ∉ ([90] : List Nat) → g j = g j := fun _ _ => rfl
  have haA : ∀ j, j ∉ ([62, 63, 64, 65, 67, 68, 69, 70] : List Nat) → a j = a j := fun _ _ => rfl
  have hl := lv_entry ([.ref (ad 0), .int (iI p1), .int (iI p2)]) (n := 3) (Nat.le_of_ble_eq_true rfl)
  rw [lg_entry_eq]
  generalize (lg_sl ([.ref (ad 0), .int (iI p1), .int (iI p2)]) ++ List.replicate (3 - (lg_sl ([.ref (ad 0), .int (iI p1), .int (iI p2)])).length) Slot.unset).toArray = ls at hl ⊢
  have hl : lv_has ls 3 [(0, .ref (ad 0)), (1, .int (iI p1)), (2, .int (iI p2))] := hl
  generalize hQ : MQ below (va_Qi (fun (r : Int32) (u : (Nat → Int) × (Nat → Int → Int)) => ∃ z : Int, r = iI z ∧ (mI u.1 u.2) ∧ (∀ j, j ∉ ([90] : List Nat) → u.1 j = g j) ∧ (∀ j, j ∉ ([62, 63, 64, 65, 67, 68, 69, 70] : List Nat) → u.2 j = a j) ∧ (rg z)) (fun u t => va_P (dC, dI) vwCl (mG ad ca u.1 u.2) t.heap ∧ va_K (dC, dI) vwCl (mT ca) t ∧ va_D A (mG ad ca u.1 u.2)) A) ([.ref (ad 0), .int (iI p1), .int (iI p2)] : List Value).toArray s 0 0 A = Q
  suffices ST : ∀ (H : Heap) (locs : List Loc), va_P (dC, dI) vwCl (mG ad ca g a) H → va_S A s.heap H locs → W p l e ({ frames := 9, cells := 0, slots := 0, locals := 232 }) s m ([.ref (ad 0), .int (iI p1), .int (iI p2)] : List Value).toArray below meth c H locs 0 0 Q (F0 m 0 ls []) from ST _ _ hP hS
  clear hP hS
  intro H locs hP hS
  refine lv_aload_n hx hb dX13_lengths_0 rfl (lv_at hl 0 rfl) ?_
  refine lv_iload_n hx hb dX13_lengths_1 rfl (lv_at hl 1 rfl) ?_
  refine lv_iload_n hx hb dX13_lengths_2 rfl (lv_at hl 2 rfl) ?_
  refine jcg_i (va_runV (As := [.int (iI p1), .int (iI p2)]) (rest := []) ⟨hx, hb, hml, hown, hts⟩ (sX13_bringsTo l dC dI _ ad ca g a p1 p2 hI (by omega) (by omega) hrSh) (cwV 2 hts (jgoodV m_280 m_300 m_301 m_503 m_115) rfl rfl rfl (by decide +kernel) ⟨(Nat.le_of_ble_eq_true rfl), (Nat.le_of_ble_eq_true rfl)⟩) ⟨jw_blind, va_recv hK hP (ci := 13) (q0 := 0) rfl rfl, fun U hU hW => ⟨rfl, jw_of hU hW hP hK hD⟩⟩ rfl rfl hl.1 rfl (lv_room (Nat.le_of_ble_eq_true rfl)) dX13_lengths_3 ⟨(Nat.le_of_ble_eq_true rfl), (Nat.le_of_ble_eq_true rfl)⟩) hD hS hA (fun r_1 u_7 H locs w_2 hP hK hD hS => ?_)
  obtain ⟨g_5, a_6⟩ := u_7
  obtain ⟨z_3, rfl, hI, hfr_8, hfr_9, h_4⟩ := w_2
  have hP : va_P (dC, dI) vwCl (mG ad ca g_5 a_6) H := hP
  have hD : va_D A (mG ad ca g_5 a_6) := hD
  have hfA : ∀ j, j ∉ ([90] : List Nat) → g_5 j = g j := fun j h => (hfr_8 j (fun q => h (by first | exact q | (simp only [List.mem_cons, List.not_mem_nil, or_false] at q ⊢ <;> omega)))).trans (hfA j h)
  have haA : ∀ j, j ∉ ([62, 63, 64, 65, 67, 68, 69, 70] : List Nat) → a_6 j = a j := fun j h => (hfr_9 j (fun q => h (by first | exact q | (simp only [List.mem_cons, List.not_mem_nil, or_false] at q ⊢ <;> omega)))).trans (haA j h)
  refine lv_iconst (v := iI (-1)) hx hb dX13_lengths_6 rfl ?_
  refine xr_icmp_ne (tgt := 14) hx hb dX13_lengths_7 (by decide) (by omega) (by omega) (fun h_11 => ?_) (fun h_11 => ?_)
  · refine lv_aload_n hx hb dX13_lengths_14 rfl (lv_at hl 0 rfl) ?_
    refine gf_differs hx hb hj hown hK hP hI dX13_lengths_15 (fun h_12 => ?_)
    rw [← hQ]
    exact W.iret (v := iI (g_5 90)) hx hb hr (fun t ht hW => ⟨⟨iI (g_5 90), (g_5, a_6), rfl, ⟨g_5 90, rfl, hI, hfA, haA, by omega⟩, by rw [ht]; exact hP, va_K.moved hW.alike hK, hD⟩, hS.F ht⟩) hS.2.2 dX13_lengths_18
  · refine lv_iconst (v := iI (-1)) hx hb dX13_lengths_10 rfl ?_
    refine lv_goto (tgt := 18) hx hb dX13_lengths_11 (by decide) ?_
    rw [← hQ]
    exact W.iret (v := iI (-1)) hx hb hr (fun t ht hW => ⟨⟨iI (-1), (g_5, a_6), rfl, ⟨(-1), rfl, hI, hfA, haA, by omega⟩, by rw [ht]; exact hP, va_K.moved hW.alike hK, hD⟩, hS.F ht⟩) hS.2.2 dX13_lengths_18
set_option maxHeartbeats 2000000 in
set_option maxRecDepth 100000 in
theorem sX13_length (l : Launch) (dC : Nat → ClassId) (dI : Nat → Nat → Nat) (sz : Nat) (ad : Nat → Nat) (ca : Nat → ClassId) (g : Nat → Int) (a : Nat → Int → Int) (p1 : Int) (p2 : Int) (hI : mI g a) (q1 : rg p1) (q2 : rg p2) (hrSh : rSh g a) : Met l yX13_length (jk yX13_length cX13_length 3 (some .int)) ({ frames := 9, cells := 0, slots := 0, locals := 232 }) (va_Pc [.ref (ad 0), .int (iI p1), .int (iI p2)] (jw_P (dC, dI) (mG ad ca g a) (mT ca) sz)) (va_Qi (fun (r : Int32) (u : (Nat → Int) × (Nat → Int → Int)) => ∃ z : Int, r = iI z ∧ (mI u.1 u.2) ∧ (∀ j, j ∉ ([90] : List Nat) → u.1 j = g j) ∧ (∀ j, j ∉ ([62, 63, 64, 65, 67, 68, 69, 70] : List Nat) → u.2 j = a j) ∧ (rg z)) (fun u t => va_P (dC, dI) vwCl (mG ad ca u.1 u.2) t.heap ∧ va_K (dC, dI) vwCl (mT ca) t ∧ va_D (va_A (mG ad ca g a) sz) (mG ad ca u.1 u.2)) (va_A (mG ad ca g a) sz)) 0 0 (va_A (mG ad ca g a) sz) := by
  refine Met.ofW (cc := cX13_length) (maxL := 3) (ret := (some .int)) (by decide) rfl ?_
  intro p e s m args below meth c s₁ B hml hv
  obtain ⟨rfl, hsz, hP, hK, hD0⟩ := hv
  have hx := B.exec
  have hb := B.bytes
  have hr := B.returns
  have hts := atoms_spec (ws := (jk yX13_length cX13_length 3 (some .int))) B.pre
  have hj : ∀ w ∈ jw, w.before ([.ref (ad 0), .int (iI p1), .int (iI p2)] : List Value).toArray s = true := fun w h => hts w (jm h)
  have hown : s.vm.findClass RX13 = some m.cls := findClass_of_methodNamed B.named
  subst hsz
  have hD := hD0.self (sz := s.heap.size)
  generalize hAe : (va_A (mG ad ca g a) s.heap.size) = A at hD ⊢
  have hA : ∀ q : Nat, s.heap.size ≤ q → A q := fun q h => by rw [← hAe]; exact Or.inr h
  have hS : va_S A s.heap s.heap [] := va_S.rf
  have hP : va_P (dC, dI) vwCl (mG ad ca g a) s.heap := hP
  have hfA : ∀ j, j ∉ ([90] : List Nat) → g j = g j := fun _ _ => rfl
  have haA : ∀ j, j ∉ ([62, 63, 64, 65, 67, 68, 69, 70] : List Nat) → a j = a j := fun _ _ => rfl
  have hl := lv_entry ([.ref (ad 0), .int (iI p1), .int (iI p2)]) (n := 3) (Nat.le_of_ble_eq_true rfl)
  rw [lg_entry_eq]
  generalize (lg_sl ([.ref (ad 0), .int (iI p1), .int (iI p2)]) ++ List.replicate (3 - (lg_sl ([.ref (ad 0), .int (iI p1), .int (iI p2)])).length) Slot.unset).toArray = ls at hl ⊢
  have hl : lv_has ls 3 [(0, .ref (ad 0)), (1, .int (iI p1)), (2, .int (iI p2))] := hl
  generalize hQ : MQ below (va_Qi (fun (r : Int32) (u : (Nat → Int) × (Nat → Int → Int)) => ∃ z : Int, r = iI z ∧ (mI u.1 u.2) ∧ (∀ j, j ∉ ([90] : List Nat) → u.1 j = g j) ∧ (∀ j, j ∉ ([62, 63, 64, 65, 67, 68, 69, 70] : List Nat) → u.2 j = a j) ∧ (rg z)) (fun u t => va_P (dC, dI) vwCl (mG ad ca u.1 u.2) t.heap ∧ va_K (dC, dI) vwCl (mT ca) t ∧ va_D A (mG ad ca u.1 u.2)) A) ([.ref (ad 0), .int (iI p1), .int (iI p2)] : List Value).toArray s 0 0 A = Q
  suffices ST : ∀ (H : Heap) (locs : List Loc), va_P (dC, dI) vwCl (mG ad ca g a) H → va_S A s.heap H locs → W p l e ({ frames := 9, cells := 0, slots := 0, locals := 232 }) s m ([.ref (ad 0), .int (iI p1), .int (iI p2)] : List Value).toArray below meth c H locs 0 0 Q (F0 m 0 ls []) from ST _ _ hP hS
  clear hP hS
  intro H locs hP hS
  refine lv_aload_n hx hb dX13_length_0 rfl (lv_at hl 0 rfl) ?_
  refine lv_iload_n hx hb dX13_length_1 rfl (lv_at hl 1 rfl) ?_
  refine jc_i (va_runV (As := [.int (iI p1)]) (rest := []) ⟨hx, hb, hml, hown, hts⟩ (sX13_isArticle l dC dI _ ad ca g a p1 hI (by omega)) (cwV 1 hts (jgoodV m_266 m_373 m_374 m_503 m_152) rfl rfl rfl (by decide +kernel) ⟨(Nat.le_of_ble_eq_true rfl), (Nat.le_of_ble_eq_true rfl)⟩) ⟨jw_blind, va_recv hK hP (ci := 13) (q0 := 0) rfl rfl, fun U hU hW => ⟨rfl, jw_of hU hW hP hK hD⟩⟩ rfl rfl hl.1 rfl (lv_room (Nat.le_of_ble_eq_true rfl)) dX13_length_2 ⟨(Nat.le_of_ble_eq_true rfl), (Nat.le_of_ble_eq_true rfl)⟩) hP hS hA (fun r_1 H locs w_2 hP hS => ?_)
  obtain ⟨z_3, rfl, h_4, h_5⟩ := w_2
  have b_6 : 0 ≤ g 37 ∧ g 37 ≤ 60 := hI.1 37
  refine xr_if_eq (tgt := 37) hx hb dX13_length_5 (by decide) (by omega) (fun h_7 => ?_) (fun h_7 => ?_)
  · refine lv_iconst (v := iI (-1)) hx hb dX13_length_37 rfl ?_
    rw [← hQ]
    exact W.iret (v := iI (-1)) hx hb hr (fun t ht hW => ⟨⟨iI (-1), (g, a), rfl, ⟨(-1), rfl, hI, hfA, haA, by omega⟩, by rw [ht]; exact hP, va_K.moved hW.alike hK, hD⟩, hS.F ht⟩) hS.2.2 dX13_length_38
  · refine lv_aload_n hx hb dX13_length_8 rfl (lv_at hl 0 rfl) ?_
    refine gf_isStruck hx hb hj hown hK hP dX13_length_9 ?_
    refine lv_iload_n hx hb dX13_length_12 rfl (lv_at hl 1 rfl) ?_
    refine ld_isStruck hx hb hK hP hI (by omega) (by omega) dX13_length_13 (fun h_8 => ?_)
    refine xr_if_ne (tgt := 37) hx hb dX13_length_14 (by decide) (by omega) (fun h_9 => ?_) (fun h_9 => ?_)
    · refine lv_iconst (v := iI (-1)) hx hb dX13_length_37 rfl ?_
      rw [← hQ]
      exact W.iret (v := iI (-1)) hx hb hr (fun t ht hW => ⟨⟨iI (-1), (g, a), rfl, ⟨(-1), rfl, hI, hfA, haA, by omega⟩, by rw [ht]; exact hP, va_K.moved hW.alike hK, hD⟩, hS.F ht⟩) hS.2.2 dX13_length_38
    · refine lv_aload_n hx hb dX13_length_17 rfl (lv_at hl 0 rfl) ?_
      refine gf_setWith hx hb hj hown hK hP dX13_length_18 ?_
      refine lv_iload_n hx hb dX13_length_21 rfl (lv_at hl 1 rfl) ?_
      refine ld_setWith hx hb hK hP hI (by omega) (by omega) dX13_length_22 (fun h_10 => ?_)
      refine lv_iconst (v := iI (-1)) hx hb dX13_length_23 rfl ?_
      refine xr_icmp_ne (tgt := 37) hx hb dX13_length_24 (by decide) (by omega) (by omega) (fun h_11 => ?_) (fun h_11 => ?_)
      · refine lv_iconst (v := iI (-1)) hx hb dX13_length_37 rfl ?_
        rw [← hQ]
        exact W.iret (v := iI (-1)) hx hb hr (fun t ht hW => ⟨⟨iI (-1), (g, a), rfl, ⟨(-1), rfl, hI, hfA, haA, by omega⟩, by rw [ht]; exact hP, va_K.moved hW.alike hK, hD⟩, hS.F ht⟩) hS.2.2 dX13_length_38
      · refine lv_aload_n hx hb dX13_length_27 rfl (lv_at hl 0 rfl) ?_
        refine lv_iload_n hx hb dX13_length_28 rfl (lv_at hl 1 rfl) ?_
        refine jcg_i (va_runV (As := [.int (iI p1)]) (rest := []) ⟨hx, hb, hml, hown, hts⟩ (sX13_volumeOf l dC dI _ ad ca g a p1 hI (by omega) (by omega) hrSh) (cwV 1 hts (jgoodV m_257 m_494 m_495 m_503 m_215) rfl rfl rfl (by decide +kernel) ⟨(Nat.le_of_ble_eq_true rfl), (Nat.le_of_ble_eq_true rfl)⟩) ⟨jw_blind, va_recv hK hP (ci := 13) (q0 := 0) rfl rfl, fun U hU hW => ⟨rfl, jw_of hU hW hP hK hD⟩⟩ rfl rfl hl.1 rfl (lv_room (Nat.le_of_ble_eq_true rfl)) dX13_length_29 ⟨(Nat.le_of_ble_eq_true rfl), (Nat.le_of_ble_eq_true rfl)⟩) hD hS hA (fun r_12 u_18 H locs w_13 hP hK hD hS => ?_)
        obtain ⟨g_16, a_17⟩ := u_18
        obtain ⟨z_14, rfl, e_20, hI, hfr_19, h_15⟩ := w_13
        have hP : va_P (dC, dI) vwCl (mG ad ca g_16 a_17) H := hP
        have hD : va_D A (mG ad ca g_16 a_17) := hD
        have e_20 : g = g_16 := e_20.symm
        subst e_20
        have haA : ∀ j, j ∉ ([62, 63, 64, 65, 67, 68, 69, 70] : List Nat) → a_17 j = a j := fun j h => (hfr_19 j (fun q => h (by first | exact q | (simp only [List.mem_cons, List.not_mem_nil, or_false] at q ⊢ <;> omega)))).trans (haA j h)
        refine lv_bipush (v := iI 6) hx hb dX13_length_32 rfl ?_
        refine xr_icmp_ne (tgt := 39) hx hb dX13_length_34 (by decide) (by omega) (by omega) (fun h_21 => ?_) (fun h_21 => ?_)
        · refine lv_aload_n hx hb dX13_length_39 rfl (lv_at hl 0 rfl) ?_
          refine lv_aload_n hx hb dX13_length_40 rfl (lv_at hl 0 rfl) ?_
          refine lv_iload_n hx hb dX13_length_41 rfl (lv_at hl 1 rfl) ?_
          refine jcg_i (va_runV (As := [.int (iI p1)]) (rest := [.ref (ad 0)]) ⟨hx, hb, hml, hown, hts⟩ (sX13_volumeOf l dC dI _ ad ca g a_17 p1 hI (by omega) (by omega) (rSh_t rfl rfl (haA 9 (by decide)) (haA 10 (by decide)) (haA 11 (by decide)) (haA 12 (by decide)) (haA 16 (by decide)) hrSh)) (cwV 1 hts (jgoodV m_257 m_494 m_495 m_503 m_215) rfl rfl rfl (by decide +kernel) ⟨(Nat.le_of_ble_eq_true rfl), (Nat.le_of_ble_eq_true rfl)⟩) ⟨jw_blind, va_recv hK hP (ci := 13) (q0 := 0) rfl rfl, fun U hU hW => ⟨rfl, jw_of hU hW hP hK hD⟩⟩ rfl rfl hl.1 rfl (lv_room (Nat.le_of_ble_eq_true rfl)) dX13_length_42 ⟨(Nat.le_of_ble_eq_true rfl), (Nat.le_of_ble_eq_true rfl)⟩) hD hS hA (fun r_22 u_28 H locs w_23 hP hK hD hS => ?_)
          obtain ⟨g_26, a_27⟩ := u_28
          obtain ⟨z_24, rfl, e_30, hI, hfr_29, h_25⟩ := w_23
          have hP : va_P (dC, dI) vwCl (mG ad ca g_26 a_27) H := hP
          have hD : va_D A (mG ad ca g_26 a_27) := hD
          have e_30 : g = g_26 := e_30.symm
          subst e_30
          have haA : ∀ j, j ∉ ([62, 63, 64, 65, 67, 68, 69, 70] : List Nat) → a_27 j = a j := fun j h => (hfr_29 j (fun q => h (by first | exact q | (simp only [List.mem_cons, List.not_mem_nil, or_false] at q ⊢ <;> omega)))).trans (haA j h)
          refine lv_iload_n hx hb dX13_length_45 rfl (lv_at hl 2 rfl) ?_
          refine jcg_i (va_runV (As := [.int (iI z_24), .int (iI p2)]) (rest := []) ⟨hx, hb, hml, hown, hts⟩ (sX13_bringsTo l dC dI _ ad ca g a_27 z_24 p2 hI (by omega) (by omega) (rSh_t rfl rfl (haA 9 (by decide)) (haA 10 (by decide)) (haA 11 (by decide)) (haA 12 (by decide)) (haA 16 (by decide)) hrSh)) (cwV 2 hts (jgoodV m_280 m_300 m_301 m_503 m_115) rfl rfl rfl (by decide +kernel) ⟨(Nat.le_of_ble_eq_true rfl), (Nat.le_of_ble_eq_true rfl)⟩) ⟨jw_blind, va_recv hK hP (ci := 13) (q0 := 0) rfl rfl, fun U hU hW => ⟨rfl, jw_of hU hW hP hK hD⟩⟩ rfl rfl hl.1 rfl (lv_room (Nat.le_of_ble_eq_true rfl)) dX13_length_46 ⟨(Nat.le_of_ble_eq_true rfl), (Nat.le_of_ble_eq_true rfl)⟩) hD hS hA (fun r_31 u_37 H locs w_32 hP hK hD hS => ?_)
          obtain ⟨g_35, a_36⟩ := u_37
          obtain ⟨z_33, rfl, hI, hfr_38, hfr_39, h_34⟩ := w_32
          have hP : va_P (dC, dI) vwCl (mG ad ca g_35 a_36) H := hP
          have hD : va_D A (mG ad ca g_35 a_36) := hD
          have hfA : ∀ j, j ∉ ([90] : List Nat) → g_35 j = g j := fun j h => (hfr_38 j (fun q => h (by first | exact q | (simp only [List.mem_cons, List.not_mem_nil, or_false] at q ⊢ <;> omega)))).trans (hfA j h)
          have haA : ∀ j, j ∉ ([62, 63, 64, 65, 67, 68, 69, 70] : List Nat) → a_36 j = a j := fun j h => (hfr_39 j (fun q => h (by first | exact q | (simp only [List.mem_cons, List.not_mem_nil, or_false] at q ⊢ <;> omega)))).trans (haA j h)
          refine lv_iconst (v := iI (-1)) hx hb dX13_length_49 rfl ?_
          refine xr_icmp_ne (tgt := 57) hx hb dX13_length_50 (by decide) (by omega) (by omega) (fun h_41 => ?_) (fun h_41 => ?_)
          · refine lv_aload_n hx hb dX13_length_57 rfl (lv_at hl 0 rfl) ?_
            refine gf_longs hx hb hj hown hK hP dX13_length_58 ?_
            refine lv_iload_n hx hb dX13_length_61 rfl (lv_at hl 1 rfl) ?_
            refine ld_longs hx hb hK hP hI (by omega) (by omega) dX13_length_62 (fun h_42 => ?_)
            rw [← hQ]
            exact W.iret (v := iI (a_36 70 p1)) hx hb hr (fun t ht hW => ⟨⟨iI (a_36 70 p1), (g_35, a_36), rfl, ⟨a_36 70 p1, rfl, hI, hfA, haA, by omega⟩, by rw [ht]; exact hP, va_K.moved hW.alike hK, hD⟩, hS.F ht⟩) hS.2.2 dX13_length_63
          · refine lv_iconst (v := iI (-1)) hx hb dX13_length_53 rfl ?_
            refine lv_goto (tgt := 63) hx hb dX13_length_54 (by decide) ?_
            rw [← hQ]
            exact W.iret (v := iI (-1)) hx hb hr (fun t ht hW => ⟨⟨iI (-1), (g_35, a_36), rfl, ⟨(-1), rfl, hI, hfA, haA, by omega⟩, by rw [ht]; exact hP, va_K.moved hW.alike hK, hD⟩, hS.F ht⟩) hS.2.2 dX13_length_63
        · refine lv_iconst (v := iI (-1)) hx hb dX13_length_37 rfl ?_
          rw [← hQ]
          exact W.iret (v := iI (-1)) hx hb hr (fun t ht hW => ⟨⟨iI (-1), (g, a_17), rfl, ⟨(-1), rfl, hI, hfA, haA, by omega⟩, by rw [ht]; exact hP, va_K.moved hW.alike hK, hD⟩, hS.F ht⟩) hS.2.2 dX13_length_38
set_option maxHeartbeats 2000000 in
set_option maxRecDepth 100000 in
theorem sX13_isStale (l : Launch) (dC : Nat → ClassId) (dI : Nat → Nat → Nat) (sz : Nat) (ad : Nat → Nat) (ca : Nat → ClassId) (g : Nat → Int) (a : Nat → Int → Int) (p1 : Int) (p2 : Int) (hI : mI g a) (q1 : rg p1) (q2 : rg p2) (k1 : 0 ≤ p1 ∧ p1 < g 56) (hrLine : rLine g a) : Met l yX13_isStale (jk yX13_isStale cX13_isStale 4 (some .boolean)) ({ frames := 2, cells := 0, slots := 0, locals := 46 }) (va_Pc [.ref (ad 0), .int (iI p1), .int (iI p2)] (jw_P (dC, dI) (mG ad ca g a) (mT ca) sz)) (va_Qi (fun (r : Int32) (u : (Nat → Int) × (Nat → Int → Int)) => ∃ z : Int, r = iI z ∧ (mI u.1 u.2) ∧ (∀ j, j ∉ ([86] : List Nat) → u.1 j = g j) ∧ (∀ j, j ∉ ([] : List Nat) → u.2 j = a j) ∧ (0 ≤ z ∧ z ≤ 1)) (fun u t => va_P (dC, dI) vwCl (mG ad ca u.1 u.2) t.heap ∧ va_K (dC, dI) vwCl (mT ca) t ∧ va_D (va_A (mG ad ca g a) sz) (mG ad ca u.1 u.2)) (va_A (mG ad ca g a) sz)) 0 0 (va_A (mG ad ca g a) sz) := by
  refine Met.ofW (cc := cX13_isStale) (maxL := 4) (ret := (some .boolean)) (by decide) rfl ?_
  intro p e s m args below meth c s₁ B hml hv
  obtain ⟨rfl, hsz, hP, hK, hD0⟩ := hv
  have hx := B.exec
  have hb := B.bytes
  have hr := B.returns
  have hts := atoms_spec (ws := (jk yX13_isStale cX13_isStale 4 (some .boolean))) B.pre
  have hj : ∀ w ∈ jw, w.before ([.ref (ad 0), .int (iI p1), .int (iI p2)] : List Value).toArray s = true := fun w h => hts w (jm h)
  have hown : s.vm.findClass RX13 = some m.cls := findClass_of_methodNamed B.named
  subst hsz
  have hD := hD0.self (sz := s.heap.size)
  generalize hAe : (va_A (mG ad ca g a) s.heap.size) = A at hD ⊢
  have hA : ∀ q : Nat, s.heap.size ≤ q → A q := fun q h => by rw [← hAe]; exact Or.inr h
  have hS : va_S A s.heap s.heap [] := va_S.rf
  have hP : va_P (dC, dI) vwCl (mG ad ca g a) s.heap := hP
  have hfA : ∀ j, j ∉ ([86] : List Nat) → g j = g j := fun _ _ => rfl
  have haA : ∀ j, j ∉ ([] : List Nat) → a j = a j := fun _ _ => rfl
  have hl := lv_entry ([.ref (ad 0), .int (iI p1), .int (iI p2)]) (n := 4) (Nat.le_of_ble_eq_true rfl)
  rw [lg_entry_eq]
  generalize (lg_sl ([.ref (ad 0), .int (iI p1), .int (iI p2)]) ++ List.replicate (4 - (lg_sl ([.ref (ad 0), .int (iI p1), .int (iI p2)])).length) Slot.unset).toArray = ls at hl ⊢
  have hl : lv_has ls 4 [(0, .ref (ad 0)), (1, .int (iI p1)), (2, .int (iI p2))] := hl
  generalize hQ : MQ below (va_Qi (fun (r : Int32) (u : (Nat → Int) × (Nat → Int → Int)) => ∃ z : Int, r = iI z ∧ (mI u.1 u.2) ∧ (∀ j, j ∉ ([86] : List Nat) → u.1 j = g j) ∧ (∀ j, j ∉ ([] : List Nat) → u.2 j = a j) ∧ (0 ≤ z ∧ z ≤ 1)) (fun u t => va_P (dC, dI) vwCl (mG ad ca u.1 u.2) t.heap ∧ va_K (dC, dI) vwCl (mT ca) t ∧ va_D A (mG ad ca u.1 u.2)) A) ([.ref (ad 0), .int (iI p1), .int (iI p2)] : List Value).toArray s 0 0 A = Q
  suffices ST : ∀ (H : Heap) (locs : List Loc), va_P (dC, dI) vwCl (mG ad ca g a) H → va_S A s.heap H locs → W p l e ({ frames := 2, cells := 0, slots := 0, locals := 46 }) s m ([.ref (ad 0), .int (iI p1), .int (iI p2)] : List Value).toArray below meth c H locs 0 0 Q (F0 m 0 ls []) from ST _ _ hP hS
  clear hP hS
  intro H locs hP hS
  have b56_0 : 0 ≤ g 56 ∧ g 56 ≤ 300 := hI.1 56
  refine lv_iload_n hx hb dX13_isStale_0 rfl (lv_at hl 1 rfl) ?_
  refine lv_istore_n (lv' := [(3, .int (iI p1)), (0, .ref (ad 0)), (1, .int (iI p1)), (2, .int (iI p2))]) hx hb dX13_isStale_1 rfl hl (by decide) rfl (fun ls hl => ?_)
  have L2 : ∀ (n2 : Nat) (v3_2 : Int) (g_2 : Nat → Int) (a_2 : Nat → Int → Int) (H : Heap) (locs : List Loc) (ls : Array Slot), ((-2147483648) ≤ v3_2 ∧ v3_2 ≤ 2147483647) → (-1 ≤ v3_2 ∧ v3_2 < g 56) → (mI g_2 a_2) → (∀ j, j ∉ ([86] : List Nat) → g_2 j = g j) → (∀ j, j ∉ ([] : List Nat) → a_2 j = a j) → (0 < (n2 : Int) ∧ v3_2 + 1 < (n2 : Int)) → va_P (dC, dI) vwCl (mG ad ca g_2 a_2) H → va_D A (mG ad ca g_2 a_2) → va_S A s.heap H locs → lv_has ls 4 [(3, .int (iI v3_2)), (0, .ref (ad 0)), (1, .int (iI p1)), (2, .int (iI p2))] → W p l e ({ frames := 2, cells := 0, slots := 0, locals := 46 }) s m ([.ref (ad 0), .int (iI p1), .int (iI p2)] : List Value).toArray below meth c H locs 0 0 Q (F0 m 2 ls []) := by
    intro n2
    induction n2 with
    | zero =>
      intro v3_2 g_2 a_2 H locs ls h_1 h_2 hI hfA haA hm2 hP hD hS hl
      have b_3 : g_2 56 = g 56 := hfA 56 (by decide)
      exfalso; omega
    | succ n2 ih2 =>
      intro v3_2 g_2 a_2 H locs ls h_4 h_5 hI hfA haA hm2 hP hD hS hl
      have b_6 : g_2 56 = g 56 := hfA 56 (by decide)
      refine lv_iload_n hx hb dX13_isStale_2 rfl (lv_at hl 0 rfl) ?_
      refine lv_iconst (v := iI (-1)) hx hb dX13_isStale_3 rfl ?_
      refine xr_icmp_eq (tgt := 50) hx hb dX13_isStale_4 (by decide) (by omega) (by omega) (fun h_7 => ?_) (fun h_7 => ?_)
      · refine lv_iconst (v := iI 0) hx hb dX13_isStale_50 rfl ?_
        rw [← hQ]
        exact W.zret (v := iI 0) (ty := .boolean) hx hb hr (nb_bool (by omega) (by omega)) (fun t ht hW => ⟨⟨iI 0, (g_2, a_2), rfl, ⟨0, rfl, hI, hfA, haA, by omega⟩, by rw [ht]; exact hP, va_K.moved hW.alike hK, hD⟩, hS.F ht⟩) hS.2.2 dX13_isStale_51
      · refine lv_aload_n hx hb dX13_isStale_7 rfl (lv_at hl 1 rfl) ?_
        refine gf_lineFact hx hb hj hown hK hP dX13_isStale_8 ?_
        refine lv_iload_n hx hb dX13_isStale_11 rfl (lv_at hl 0 rfl) ?_
        refine ld_lineFact hx hb hK hP hI (by omega) (by omega) dX13_isStale_12 (fun h_8 => ?_)
        refine lv_iconst (v := iI (-1)) hx hb dX13_isStale_13 rfl ?_
        have J40 : ∀ (g_40 : Nat → Int) (a_40 : Nat → Int → Int) (H : Heap) (locs : List Loc) (ls : Array Slot), (mI g_40 a_40) → (∀ j, j ∉ ([86] : List Nat) → g_40 j = g j) → (∀ j, j ∉ ([] : List Nat) → a_40 j = a j) → va_P (dC, dI) vwCl (mG ad ca g_40 a_40) H → va_D A (mG ad ca g_40 a_40) → va_S A s.heap H locs → lv_has ls 4 [(3, .int (iI v3_2)), (0, .ref (ad 0)), (1, .int (iI p1)), (2, .int (iI p2))] → W p l e ({ frames := 2, cells := 0, slots := 0, locals := 46 }) s m ([.ref (ad 0), .int (iI p1), .int (iI p2)] : List Value).toArray below meth c H locs 0 0 Q (F0 m 40 ls []) := by
          intro g_40 a_40 H locs ls hI hfA haA hP hD hS hl
          have b_9 : g_40 56 = g 56 := hfA 56 (by decide)
          refine lv_aload_n hx hb dX13_isStale_40 rfl (lv_at hl 1 rfl) ?_
          refine gf_lineOn hx hb hj hown hK hP dX13_isStale_41 ?_
          refine lv_iload_n hx hb dX13_isStale_44 rfl (lv_at hl 0 rfl) ?_
          have c45 := congrFun (haA 45 (by decide)) (v3_2)
          have d45 := hrLine (v3_2) (by omega) (by omega)
          refine ld_lineOn hx hb hK hP hI (by omega) (by omega) dX13_isStale_45 (fun h_10 => ?_)
          refine lv_istore_n (lv' := [(3, .int (iI (a_40 45 v3_2))), (0, .ref (ad 0)), (1, .int (iI p1)), (2, .int (iI p2))]) hx hb dX13_isStale_46 rfl hl (by decide) rfl (fun ls hl => ?_)
          refine lv_goto (tgt := 2) hx hb dX13_isStale_47 (by decide) ?_
          exact ih2 (a_40 45 v3_2) g_40 a_40 H locs ls (by omega) (by omega) hI hfA haA (by omega) hP hD hS hl
        refine xr_icmp_eq (tgt := 40) hx hb dX13_isStale_14 (by decide) (by omega) (by omega) (fun h_11 => ?_) (fun h_11 => ?_)
        · exact J40 g_2 a_2 H locs ls hI hfA haA hP hD hS hl
        · refine lv_aload_n hx hb dX13_isStale_17 rfl (lv_at hl 1 rfl) ?_
          refine lv_iload_n hx hb dX13_isStale_18 rfl (lv_at hl 0 rfl) ?_
          refine lv_iload_n hx hb dX13_isStale_19 rfl (lv_at hl 3 rfl) ?_
          refine lv_iconst (v := iI (-1)) hx hb dX13_isStale_20 rfl ?_
          refine jcg_i (va_runV (As := [.int (iI v3_2), .int (iI p2), .int (iI (-1))]) (rest := []) ⟨hx, hb, hml, hown, hts⟩ (sX13_keeps l dC dI _ ad ca g_2 a_2 v3_2 p2 (-1) hI (by omega) (by omega) (by omega) (by omega)) (cwV 3 hts (jgoodV m_272 m_398 m_399 m_503 m_166) rfl rfl rfl (by decide +kernel) ⟨(Nat.le_of_ble_eq_true rfl), (Nat.le_of_ble_eq_true rfl)⟩) ⟨jw_blind, va_recv hK hP (ci := 13) (q0 := 0) rfl rfl, fun U hU hW => ⟨rfl, jw_of hU hW hP hK hD⟩⟩ rfl rfl hl.1 rfl (lv_room (Nat.le_of_ble_eq_true rfl)) dX13_isStale_21 ⟨(Nat.le_of_ble_eq_true rfl), (Nat.le_of_ble_eq_true rfl)⟩) hD hS hA (fun r_12 u_18 H locs w_13 hP hK hD hS => ?_)
          obtain ⟨g_16, a_17⟩ := u_18
          obtain ⟨z_14, rfl, hI, hfr_19, hfr_20, h_15⟩ := w_13
          have hP : va_P (dC, dI) vwCl (mG ad ca g_16 a_17) H := hP
          have hD : va_D A (mG ad ca g_16 a_17) := hD
          have hfA : ∀ j, j ∉ ([86] : List Nat) → g_16 j = g j := fun j h => (hfr_19 j (fun q => h (by first | exact q | (simp only [List.mem_cons, List.not_mem_nil, or_false] at q ⊢ <;> omega)))).trans (hfA j h)
          have b_22 : g_16 56 = g 56 := hfA 56 (by decide)
          have haA : ∀ j, j ∉ ([] : List Nat) → a_17 j = a j := fun j h => (hfr_20 j (fun q => h (by first | exact q | (simp only [List.mem_cons, List.not_mem_nil, or_false] at q ⊢ <;> omega)))).trans (haA j h)
          refine lv_aload_n hx hb dX13_isStale_24 rfl (lv_at hl 1 rfl) ?_
          refine lv_aload_n hx hb dX13_isStale_25 rfl (lv_at hl 1 rfl) ?_
          refine gf_lineFact hx hb hj hown hK hP dX13_isStale_26 ?_
          refine lv_iload_n hx hb dX13_isStale_29 rfl (lv_at hl 0 rfl) ?_
          refine ld_lineFact hx hb hK hP hI (by omega) (by omega) dX13_isStale_30 (fun h_23 => ?_)
          refine lv_iload_n hx hb dX13_isStale_31 rfl (lv_at hl 3 rfl) ?_
          refine jc_i (va_runV (As := [.int (iI (a_17 44 v3_2)), .int (iI p2)]) (rest := [.int (iI z_14)]) ⟨hx, hb, hml, hown, hts⟩ (sX13_valueOf l dC dI _ ad ca g_16 a_17 (a_17 44 v3_2) p2 hI (by omega) (by omega)) (cwV 2 hts (jgoodV m_270 m_490 m_491 m_503 m_213) rfl rfl rfl (by decide +kernel) ⟨(Nat.le_of_ble_eq_true rfl), (Nat.le_of_ble_eq_true rfl)⟩) ⟨jw_blind, va_recv hK hP (ci := 13) (q0 := 0) rfl rfl, fun U hU hW => ⟨rfl, jw_of hU hW hP hK hD⟩⟩ rfl rfl hl.1 rfl (lv_room (Nat.le_of_ble_eq_true rfl)) dX13_isStale_32 ⟨(Nat.le_of_ble_eq_true rfl), (Nat.le_of_ble_eq_true rfl)⟩) hP hS hA (fun r_24 H locs w_25 hP hS => ?_)
          obtain ⟨z_26, rfl, h_27⟩ := w_25
          refine xr_icmp_eq (tgt := 40) hx hb dX13_isStale_35 (by decide) (by omega) (by omega) (fun h_28 => ?_) (fun h_28 => ?_)
          · exact J40 g_16 a_17 H locs ls hI hfA haA hP hD hS hl
          · refine lv_iconst (v := iI 1) hx hb dX13_isStale_38 rfl ?_
            rw [← hQ]
            exact W.zret (v := iI 1) (ty := .boolean) hx hb hr (nb_bool (by omega) (by omega)) (fun t ht hW => ⟨⟨iI 1, (g_16, a_17), rfl, ⟨1, rfl, hI, hfA, haA, by omega⟩, by rw [ht]; exact hP, va_K.moved hW.alike hK, hD⟩, hS.F ht⟩) hS.2.2 dX13_isStale_39
  exact L2 (((p1 + 1 : Int)).toNat + 1) p1 g a H locs ls (by omega) (by omega) hI hfA haA (by omega) hP hD hS hl
set_option maxHeartbeats 2000000 in
set_option maxRecDepth 100000 in
theorem sX13_stale (l : Launch) (dC : Nat → ClassId) (dI : Nat → Nat → Nat) (sz : Nat) (ad : Nat → Nat) (ca : Nat → ClassId) (g : Nat → Int) (a : Nat → Int → Int) (p1 : Int) (p2 : Int) (hI : mI g a) (q1 : rg p1) (q2 : rg p2) (hrLine : rLine g a) : Met l yX13_stale (jk yX13_stale cX13_stale 3 (some .boolean)) ({ frames := 3, cells := 0, slots := 0, locals := 69 }) (va_Pc [.ref (ad 0), .int (iI p1), .int (iI p2)] (jw_P (dC, dI) (mG ad ca g a) (mT ca) sz)) (va_Qi (fun (r : Int32) (u : (Nat → Int) × (Nat → Int → Int)) => ∃ z : Int, r = iI z ∧ (mI u.1 u.2) ∧ (∀ j, j ∉ ([86] : List Nat) → u.1 j = g j) ∧ (∀ j, j ∉ ([] : List Nat) → u.2 j = a j) ∧ (0 ≤ z ∧ z ≤ 1)) (fun u t => va_P (dC, dI) vwCl (mG ad ca u.1 u.2) t.heap ∧ va_K (dC, dI) vwCl (mT ca) t ∧ va_D (va_A (mG ad ca g a) sz) (mG ad ca u.1 u.2)) (va_A (mG ad ca g a) sz)) 0 0 (va_A (mG ad ca g a) sz) := by
  refine Met.ofW (cc := cX13_stale) (maxL := 3) (ret := (some .boolean)) (by decide) rfl ?_
  intro p e s m args below meth c s₁ B hml hv
  obtain ⟨rfl, hsz, hP, hK, hD0⟩ := hv
  have hx := B.exec
  have hb := B.bytes
  have hr := B.returns
  have hts := atoms_spec (ws := (jk yX13_stale cX13_stale 3 (some .boolean))) B.pre
  have hj : ∀ w ∈ jw, w.before ([.ref (ad 0), .int (iI p1), .int (iI p2)] : List Value).toArray s = true := fun w h => hts w (jm h)
  have hown : s.vm.findClass RX13 = some m.cls := findClass_of_methodNamed B.named
  subst hsz
  have hD := hD0.self (sz := s.heap.size)
  generalize hAe : (va_A (mG ad ca g a) s.heap.size) = A at hD ⊢
  have hA : ∀ q : Nat, s.heap.size ≤ q → A q := fun q h => by rw [← hAe]; exact Or.inr h
  have hS : va_S A s.heap s.heap [] := va_S.rf
  have hP : va_P (dC, dI) vwCl (mG ad ca g a) s.heap := hP
  have hfA : ∀ j, j ∉ ([86] : List Nat) → g j = g j := fun _ _ => rfl
  have haA : ∀ j, j ∉ ([] : List Nat) → a j = a j := fun _ _ => rfl
  have hl := lv_entry ([.ref (ad 0), .int (iI p1), .int (iI p2)]) (n := 3) (Nat.le_of_ble_eq_true rfl)
  rw [lg_entry_eq]
  generalize (lg_sl ([.ref (ad 0), .int (iI p1), .int (iI p2)]) ++ List.replicate (3 - (lg_sl ([.ref (ad 0), .int (iI p1), .int (iI p2)])).length) Slot.unset).toArray = ls at hl ⊢
  have hl : lv_has ls 3 [(0, .ref (ad 0)), (1, .int (iI p1)), (2, .int (iI p2))] := hl
  generalize hQ : MQ below (va_Qi (fun (r : Int32) (u : (Nat → Int) × (Nat → Int → Int)) => ∃ z : Int, r = iI z ∧ (mI u.1 u.2) ∧ (∀ j, j ∉ ([86] : List Nat) → u.1 j = g j) ∧ (∀ j, j ∉ ([] : List Nat) → u.2 j = a j) ∧ (0 ≤ z ∧ z ≤ 1)) (fun u t => va_P (dC, dI) vwCl (mG ad ca u.1 u.2) t.heap ∧ va_K (dC, dI) vwCl (mT ca) t ∧ va_D A (mG ad ca u.1 u.2)) A) ([.ref (ad 0), .int (iI p1), .int (iI p2)] : List Value).toArray s 0 0 A = Q
  suffices ST : ∀ (H : Heap) (locs : List Loc), va_P (dC, dI) vwCl (mG ad ca g a) H → va_S A s.heap H locs → W p l e ({ frames := 3, cells := 0, slots := 0, locals := 69 }) s m ([.ref (ad 0), .int (iI p1), .int (iI p2)] : List Value).toArray below meth c H locs 0 0 Q (F0 m 0 ls []) from ST _ _ hP hS
  clear hP hS
  intro H locs hP hS
  refine lv_aload_n hx hb dX13_stale_0 rfl (lv_at hl 0 rfl) ?_
  refine lv_iload_n hx hb dX13_stale_1 rfl (lv_at hl 1 rfl) ?_
  refine jc_i (va_runV (As := [.int (iI p1)]) (rest := []) ⟨hx, hb, hml, hown, hts⟩ (sX13_isLine l dC dI _ ad ca g a p1 hI (by omega)) (cwV 1 hts (jgoodV m_273 m_385 m_386 m_503 m_159) rfl rfl rfl (by decide +kernel) ⟨(Nat.le_of_ble_eq_true rfl), (Nat.le_of_ble_eq_true rfl)⟩) ⟨jw_blind, va_recv hK hP (ci := 13) (q0 := 0) rfl rfl, fun U hU hW => ⟨rfl, jw_of hU hW hP hK hD⟩⟩ rfl rfl hl.1 rfl (lv_room (Nat.le_of_ble_eq_true rfl)) dX13_stale_2 ⟨(Nat.le_of_ble_eq_true rfl), (Nat.le_of_ble_eq_true rfl)⟩) hP hS hA (fun r_1 H locs w_2 hP hS => ?_)
  obtain ⟨z_3, rfl, h_4, h_5⟩ := w_2
  have b_6 : 0 ≤ g 56 ∧ g 56 ≤ 300 := hI.1 56
  refine xr_if_eq (tgt := 32) hx hb dX13_stale_5 (by decide) (by omega) (fun h_7 => ?_) (fun h_7 => ?_)
  · refine lv_iconst (v := iI 0) hx hb dX13_stale_32 rfl ?_
    rw [← hQ]
    exact W.zret (v := iI 0) (ty := .boolean) hx hb hr (nb_bool (by omega) (by omega)) (fun t ht hW => ⟨⟨iI 0, (g, a), rfl, ⟨0, rfl, hI, hfA, haA, by omega⟩, by rw [ht]; exact hP, va_K.moved hW.alike hK, hD⟩, hS.F ht⟩) hS.2.2 dX13_stale_33
  · refine lv_iload_n hx hb dX13_stale_8 rfl (lv_at hl 2 rfl) ?_
    refine lv_iconst (v := iI 0) hx hb dX13_stale_9 rfl ?_
    refine lv_sipush (v := iI 2000) hx hb dX13_stale_10 rfl ?_
    refine jc_i (va_runS (As := [.int (iI p2), .int (iI 0), .int (iI 2000)]) (rest := []) ⟨hx, hb, hml, hown, hts⟩ (sX13_in l dC dI _ p2 0 2000 (by omega) (by omega) (by omega)) (va_cwS 3 hts (jgoodS m_220 m_364 m_503 m_147) rfl rfl rfl (by decide +kernel) ⟨(Nat.le_of_ble_eq_true rfl), (Nat.le_of_ble_eq_true rfl)⟩) ⟨jw_blind0, fun U hU hW => ⟨rfl, congrArg Array.size hU⟩⟩ rfl rfl hl.1 rfl (lv_room (Nat.le_of_ble_eq_true rfl)) dX13_stale_13 ⟨(Nat.le_of_ble_eq_true rfl), (Nat.le_of_ble_eq_true rfl)⟩) hP hS hA (fun r_8 H locs w_9 hP hS => ?_)
    obtain ⟨z_10, rfl, h_11, h_12⟩ := w_9
    refine xr_if_eq (tgt := 32) hx hb dX13_stale_16 (by decide) (by omega) (fun h_13 => ?_) (fun h_13 => ?_)
    · refine lv_iconst (v := iI 0) hx hb dX13_stale_32 rfl ?_
      rw [← hQ]
      exact W.zret (v := iI 0) (ty := .boolean) hx hb hr (nb_bool (by omega) (by omega)) (fun t ht hW => ⟨⟨iI 0, (g, a), rfl, ⟨0, rfl, hI, hfA, haA, by omega⟩, by rw [ht]; exact hP, va_K.moved hW.alike hK, hD⟩, hS.F ht⟩) hS.2.2 dX13_stale_33
    · refine lv_aload_n hx hb dX13_stale_19 rfl (lv_at hl 0 rfl) ?_
      refine lv_iload_n hx hb dX13_stale_20 rfl (lv_at hl 1 rfl) ?_
      refine lv_iload_n hx hb dX13_stale_21 rfl (lv_at hl 2 rfl) ?_
      refine jcg_i (va_runV (As := [.int (iI p1), .int (iI p2)]) (rest := []) ⟨hx, hb, hml, hown, hts⟩ (sX13_isStale l dC dI _ ad ca g a p1 p2 hI (by omega) (by omega) (by omega) hrLine) (cwV 2 hts (jgoodV m_274 m_393 m_394 m_503 m_163) rfl rfl rfl (by decide +kernel) ⟨(Nat.le_of_ble_eq_true rfl), (Nat.le_of_ble_eq_true rfl)⟩) ⟨jw_blind, va_recv hK hP (ci := 13) (q0 := 0) rfl rfl, fun U hU hW => ⟨rfl, jw_of hU hW hP hK hD⟩⟩ rfl rfl hl.1 rfl (lv_room (Nat.le_of_ble_eq_true rfl)) dX13_stale_22 ⟨(Nat.le_of_ble_eq_true rfl), (Nat.le_of_ble_eq_true rfl)⟩) hD hS hA (fun r_14 u_20 H locs w_15 hP hK hD hS => ?_)
      obtain ⟨g_18, a_19⟩ := u_20
      obtain ⟨z_16, rfl, hI, hfr_21, hfr_22, h_17⟩ := w_15
      have hP : va_P (dC, dI) vwCl (mG ad ca g_18 a_19) H := hP
      have hD : va_D A (mG ad ca g_18 a_19) := hD
      have hfA : ∀ j, j ∉ ([86] : List Nat) → g_18 j = g j := fun j h => (hfr_21 j (fun q => h (by first | exact q | (simp only [List.mem_cons, List.not_mem_nil, or_false] at q ⊢ <;> omega)))).trans (hfA j h)
      have b_24 : g_18 56 = g 56 := hfA 56 (by decide)
      have haA : ∀ j, j ∉ ([] : List Nat) → a_19 j = a j := fun j h => (hfr_22 j (fun q => h (by first | exact q | (simp only [List.mem_cons, List.not_mem_nil, or_false] at q ⊢ <;> omega)))).trans (haA j h)
      refine xr_if_eq (tgt := 32) hx hb dX13_stale_25 (by decide) (by omega) (fun h_25 => ?_) (fun h_25 => ?_)
      · refine lv_iconst (v := iI 0) hx hb dX13_stale_32 rfl ?_
        rw [← hQ]
        exact W.zret (v := iI 0) (ty := .boolean) hx hb hr (nb_bool (by omega) (by omega)) (fun t ht hW => ⟨⟨iI 0, (g_18, a_19), rfl, ⟨0, rfl, hI, hfA, haA, by omega⟩, by rw [ht]; exact hP, va_K.moved hW.alike hK, hD⟩, hS.F ht⟩) hS.2.2 dX13_stale_33
      · refine lv_iconst (v := iI 1) hx hb dX13_stale_28 rfl ?_
        refine lv_goto (tgt := 33) hx hb dX13_stale_29 (by decide) ?_
        rw [← hQ]
        exact W.zret (v := iI 1) (ty := .boolean) hx hb hr (nb_bool (by omega) (by omega)) (fun t ht hW => ⟨⟨iI 1, (g_18, a_19), rfl, ⟨1, rfl, hI, hfA, haA, by omega⟩, by rw [ht]; exact hP, va_K.moved hW.alike hK, hD⟩, hS.F ht⟩) hS.2.2 dX13_stale_33
set_option maxHeartbeats 2000000 in
set_option maxRecDepth 100000 in
theorem sX13_stales (l : Launch) (dC : Nat → ClassId) (dI : Nat → Nat → Nat) (sz : Nat) (ad : Nat → Nat) (ca : Nat → ClassId) (g : Nat → Int) (a : Nat → Int → Int) (p1 : Int) (hI : mI g a) (q1 : rg p1) (hrLine : rLine g a) : Met l yX13_stales (jk yX13_stales cX13_stales 4 (some .int)) ({ frames := 3, cells := 0, slots := 0, locals := 69 }) (va_Pc [.ref (ad 0), .int (iI p1)] (jw_P (dC, dI) (mG ad ca g a) (mT ca) sz)) (va_Qi (fun (r : Int32) (u : (Nat → Int) × (Nat → Int → Int)) => ∃ z : Int, r = iI z ∧ (mI u.1 u.2) ∧ (∀ j, j ∉ ([86] : List Nat) → u.1 j = g j) ∧ (∀ j, j ∉ ([] : List Nat) → u.2 j = a j) ∧ (rg z)) (fun u t => va_P (dC, dI) vwCl (mG ad ca u.1 u.2) t.heap ∧ va_K (dC, dI) vwCl (mT ca) t ∧ va_D (va_A (mG ad ca g a) sz) (mG ad ca u.1 u.2)) (va_A (mG ad ca g a) sz)) 0 0 (va_A (mG ad ca g a) sz) := by
  refine Met.ofW (cc := cX13_stales) (maxL := 4) (ret := (some .int)) (by decide) rfl ?_
  intro p e s m args below meth c s₁ B hml hv
  obtain ⟨rfl, hsz, hP, hK, hD0⟩ := hv
  have hx := B.exec
  have hb := B.bytes
  have hr := B.returns
  have hts := atoms_spec (ws := (jk yX13_stales cX13_stales 4 (some .int))) B.pre
  have hj : ∀ w ∈ jw, w.before ([.ref (ad 0), .int (iI p1)] : List Value).toArray s = true := fun w h => hts w (jm h)
  have hown : s.vm.findClass RX13 = some m.cls := findClass_of_methodNamed B.named
  subst hsz
  have hD := hD0.self (sz := s.heap.size)
  generalize hAe : (va_A (mG ad ca g a) s.heap.size) = A at hD ⊢
  have hA : ∀ q : Nat, s.heap.size ≤ q → A q := fun q h => by rw [← hAe]; exact Or.inr h
  have hS : va_S A s.heap s.heap [] := va_S.rf
  have hP : va_P (dC, dI) vwCl (mG ad ca g a) s.heap := hP
  have hfA : ∀ j, j ∉ ([86] : List Nat) → g j = g j := fun _ _ => rfl
  have haA : ∀ j, j ∉ ([] : List Nat) → a j = a j := fun _ _ => rfl
  have hl := lv_entry ([.ref (ad 0), .int (iI p1)]) (n := 4) (Nat.le_of_ble_eq_true rfl)
  rw [lg_entry_eq]
  generalize (lg_sl ([.ref (ad 0), .int (iI p1)]) ++ List.replicate (4 - (lg_sl ([.ref (ad 0), .int (iI p1)])).length) Slot.unset).toArray = ls at hl ⊢
  have hl : lv_has ls 4 [(0, .ref (ad 0)), (1, .int (iI p1))] := hl
  generalize hQ : MQ below (va_Qi (fun (r : Int32) (u : (Nat → Int) × (Nat → Int → Int)) => ∃ z : Int, r = iI z ∧ (mI u.1 u.2) ∧ (∀ j, j ∉ ([86] : List Nat) → u.1 j = g j) ∧ (∀ j, j ∉ ([] : List Nat) → u.2 j = a j) ∧ (rg z)) (fun u t => va_P (dC, dI) vwCl (mG ad ca u.1 u.2) t.heap ∧ va_K (dC, dI) vwCl (mT ca) t ∧ va_D A (mG ad ca u.1 u.2)) A) ([.ref (ad 0), .int (iI p1)] : List Value).toArray s 0 0 A = Q
  suffices ST : ∀ (H : Heap) (locs : List Loc), va_P (dC, dI) vwCl (mG ad ca g a) H → va_S A s.heap H locs → W p l e ({ frames := 3, cells := 0, slots := 0, locals := 69 }) s m ([.ref (ad 0), .int (iI p1)] : List Value).toArray below meth c H locs 0 0 Q (F0 m 0 ls []) from ST _ _ hP hS
  clear hP hS
  intro H locs hP hS
  refine lv_aload_n hx hb dX13_stales_0 rfl (lv_at hl 0 rfl) ?_
  refine lv_iload_n hx hb dX13_stales_1 rfl (lv_at hl 1 rfl) ?_
  refine jc_i (va_runV (As := [.int (iI p1)]) (rest := []) ⟨hx, hb, hml, hown, hts⟩ (sX13_isEntry l dC dI _ ad ca g a p1 hI (by omega)) (cwV 1 hts (jgoodV m_253 m_378 m_379 m_503 m_155) rfl rfl rfl (by decide +kernel) ⟨(Nat.le_of_ble_eq_true rfl), (Nat.le_of_ble_eq_true rfl)⟩) ⟨jw_blind, va_recv hK hP (ci := 13) (q0 := 0) rfl rfl, fun U hU hW => ⟨rfl, jw_of hU hW hP hK hD⟩⟩ rfl rfl hl.1 rfl (lv_room (Nat.le_of_ble_eq_true rfl)) dX13_stales_2 ⟨(Nat.le_of_ble_eq_true rfl), (Nat.le_of_ble_eq_true rfl)⟩) hP hS hA (fun r_1 H locs w_2 hP hS => ?_)
  obtain ⟨z_3, rfl, h_4, h_5⟩ := w_2
  have b_6 : 0 ≤ g 37 ∧ g 37 ≤ 60 := hI.1 37
  refine xr_if_ne (tgt := 10) hx hb dX13_stales_5 (by decide) (by omega) (fun h_7 => ?_) (fun h_7 => ?_)
  · refine lv_iconst (v := iI 0) hx hb dX13_stales_10 rfl ?_
    refine lv_istore_n (lv' := [(2, .int (iI 0)), (0, .ref (ad 0)), (1, .int (iI p1))]) hx hb dX13_stales_11 rfl hl (by decide) rfl (fun ls hl => ?_)
    refine lv_iconst (v := iI 0) hx hb dX13_stales_12 rfl ?_
    refine lv_istore_n (lv' := [(3, .int (iI 0)), (2, .int (iI 0)), (0, .ref (ad 0)), (1, .int (iI p1))]) hx hb dX13_stales_13 rfl hl (by decide) rfl (fun ls hl => ?_)
    have L14 : ∀ (n14 : Nat) (v3_14 v2_14 : Int) (g_14 : Nat → Int) (a_14 : Nat → Int → Int) (H : Heap) (locs : List Loc) (ls : Array Slot), (0 ≤ v3_14 ∧ v3_14 ≤ 2147483647) → ((-2147483648) ≤ v2_14 ∧ v2_14 ≤ 2147483647) → (mI g_14 a_14) → (∀ j, j ∉ ([86] : List Nat) → g_14 j = g j) → (∀ j, j ∉ ([] : List Nat) → a_14 j = a j) → (0 < (n14 : Int) ∧ (g_14 56) - v3_14 < (n14 : Int)) → va_P (dC, dI) vwCl (mG ad ca g_14 a_14) H → va_D A (mG ad ca g_14 a_14) → va_S A s.heap H locs → lv_has ls 4 [(3, .int (iI v3_14)), (2, .int (iI v2_14)), (0, .ref (ad 0)), (1, .int (iI p1))] → W p l e ({ frames := 3, cells := 0, slots := 0, locals := 69 }) s m ([.ref (ad 0), .int (iI p1)] : List Value).toArray below meth c H locs 0 0 Q (F0 m 14 ls []) := by
      intro n14
      induction n14 with
      | zero =>
        intro v3_14 v2_14 g_14 a_14 H locs ls h_8 h_9 hI hfA haA hm14 hP hD hS hl
        have b_10 : g_14 30 = g 30 := hfA 30 (by decide)
        have b_11 : g_14 56 = g 56 := hfA 56 (by decide)
        exfalso; omega
      | succ n14 ih14 =>
        intro v3_14 v2_14 g_14 a_14 H locs ls h_12 h_13 hI hfA haA hm14 hP hD hS hl
        have b_14 : g_14 30 = g 30 := hfA 30 (by decide)
        have b_15 : g_14 56 = g 56 := hfA 56 (by decide)
        refine lv_iload_n hx hb dX13_stales_14 rfl (lv_at hl 0 rfl) ?_
        refine lv_aload_n hx hb dX13_stales_15 rfl (lv_at hl 2 rfl) ?_
        refine gf_lines hx hb hj hown hK hP hI dX13_stales_16 (fun h_16 => ?_)
        refine xr_icmp_ge (tgt := 58) hx hb dX13_stales_19 (by decide) (by omega) (by omega) (fun h_17 => ?_) (fun h_17 => ?_)
        · refine lv_iload_n hx hb dX13_stales_58 rfl (lv_at hl 1 rfl) ?_
          rw [← hQ]
          exact W.iret (v := iI v2_14) hx hb hr (fun t ht hW => ⟨⟨iI v2_14, (g_14, a_14), rfl, ⟨v2_14, rfl, hI, hfA, haA, by omega⟩, by rw [ht]; exact hP, va_K.moved hW.alike hK, hD⟩, hS.F ht⟩) hS.2.2 dX13_stales_59
        · refine lv_iload_n hx hb dX13_stales_22 rfl (lv_at hl 1 rfl) ?_
          refine lv_aload_n hx hb dX13_stales_23 rfl (lv_at hl 2 rfl) ?_
          refine gf_lineOf hx hb hj hown hK hP dX13_stales_24 ?_
          refine lv_iload_n hx hb dX13_stales_27 rfl (lv_at hl 0 rfl) ?_
          refine ld_lineOf hx hb hK hP hI (by omega) (by omega) dX13_stales_28 (fun h_18 => ?_)
          refine lv_iload_n hx hb dX13_stales_29 rfl (lv_at hl 3 rfl) ?_
          have J50 : ∀ (s0_50 : Int) (g_50 : Nat → Int) (a_50 : Nat → Int → Int) (H : Heap) (locs : List Loc) (ls : Array Slot), (0 ≤ s0_50 ∧ s0_50 ≤ 1) → (mI g_50 a_50) → (∀ j, j ∉ ([86] : List Nat) → g_50 j = g j) → (∀ j, j ∉ ([] : List Nat) → a_50 j = a j) → va_P (dC, dI) vwCl (mG ad ca g_50 a_50) H → va_D A (mG ad ca g_50 a_50) → va_S A s.heap H locs → lv_has ls 4 [(3, .int (iI v3_14)), (2, .int (iI v2_14)), (0, .ref (ad 0)), (1, .int (iI p1))] → W p l e ({ frames := 3, cells := 0, slots := 0, locals := 69 }) s m ([.ref (ad 0), .int (iI p1)] : List Value).toArray below meth c H locs 0 0 Q (F0 m 50 ls [.int (iI s0_50), .int (iI v2_14)]) := by
            intro s0_50 g_50 a_50 H locs ls h_19 hI hfA haA hP hD hS hl
            have b_20 : g_50 30 = g 30 := hfA 30 (by decide)
            have b_21 : g_50 56 = g 56 := hfA 56 (by decide)
            refine xr_add hx hb dX13_stales_50 ?_
            refine xr_kept (fun z_22 h_23 h_24 => ?_)
            refine lv_istore_n (lv' := [(2, .int (iI z_22)), (3, .int (iI v3_14)), (0, .ref (ad 0)), (1, .int (iI p1))]) hx hb dX13_stales_51 rfl hl (by decide) rfl (fun ls hl => ?_)
            refine lv_iinc (v := iI (v3_14 + 1)) (lv' := [(3, .int (iI (v3_14 + 1))), (2, .int (iI z_22)), (0, .ref (ad 0)), (1, .int (iI p1))]) hx hb dX13_stales_52 hl (k := 1) rfl (iI_add _ _) (by decide) rfl (fun ls hl => ?_)
            refine lv_goto (tgt := 14) hx hb dX13_stales_55 (by decide) ?_
            exact ih14 (v3_14 + 1) z_22 g_50 a_50 H locs ls (by omega) (by omega) hI hfA haA (by omega) hP hD hS hl
          have J49 : ∀ (g_49 : Nat → Int) (a_49 : Nat → Int → Int) (H : Heap) (locs : List Loc) (ls : Array Slot), (mI g_49 a_49) → (∀ j, j ∉ ([86] : List Nat) → g_49 j = g j) → (∀ j, j ∉ ([] : List Nat) → a_49 j = a j) → va_P (dC, dI) vwCl (mG ad ca g_49 a_49) H → va_D A (mG ad ca g_49 a_49) → va_S A s.heap H locs → lv_has ls 4 [(3, .int (iI v3_14)), (2, .int (iI v2_14)), (0, .ref (ad 0)), (1, .int (iI p1))] → W p l e ({ frames := 3, cells := 0, slots := 0, locals := 69 }) s m ([.ref (ad 0), .int (iI p1)] : List Value).toArray below meth c H locs 0 0 Q (F0 m 49 ls [.int (iI v2_14)]) := by
            intro g_49 a_49 H locs ls hI hfA haA hP hD hS hl
            have b_25 : g_49 30 = g 30 := hfA 30 (by decide)
            have b_26 : g_49 56 = g 56 := hfA 56 (by decide)
            refine lv_iconst (v := iI 0) hx hb dX13_stales_49 rfl ?_
            exact J50 0 g_49 a_49 H locs ls (by omega) hI hfA haA hP hD hS hl
          refine xr_icmp_ne (tgt := 49) hx hb dX13_stales_30 (by decide) (by omega) (by omega) (fun h_27 => ?_) (fun h_27 => ?_)
          · exact J49 g_14 a_14 H locs ls hI hfA haA hP hD hS hl
          · refine lv_aload_n hx hb dX13_stales_33 rfl (lv_at hl 2 rfl) ?_
            refine lv_iload_n hx hb dX13_stales_34 rfl (lv_at hl 0 rfl) ?_
            refine lv_aload_n hx hb dX13_stales_35 rfl (lv_at hl 2 rfl) ?_
            refine gf_now hx hb hj hown hK hP hI dX13_stales_36 (fun h_28 => ?_)
            refine jcg_i (va_runV (As := [.int (iI v3_14), .int (iI (g_14 30))]) (rest := [.int (iI v2_14)]) ⟨hx, hb, hml, hown, hts⟩ (sX13_isStale l dC dI _ ad ca g_14 a_14 v3_14 (g_14 30) hI (by omega) (by omega) (by omega) (rLine_t (hfA 56 (by decide)) (haA 45 (by decide)) hrLine)) (cwV 2 hts (jgoodV m_274 m_393 m_394 m_503 m_163) rfl rfl rfl (by decide +kernel) ⟨(Nat.le_of_ble_eq_true rfl), (Nat.le_of_ble_eq_true rfl)⟩) ⟨jw_blind, va_recv hK hP (ci := 13) (q0 := 0) rfl rfl, fun U hU hW => ⟨rfl, jw_of hU hW hP hK hD⟩⟩ rfl rfl hl.1 rfl (lv_room (Nat.le_of_ble_eq_true rfl)) dX13_stales_39 ⟨(Nat.le_of_ble_eq_true rfl), (Nat.le_of_ble_eq_true rfl)⟩) hD hS hA (fun r_29 u_35 H locs w_30 hP hK hD hS => ?_)
            obtain ⟨g_33, a_34⟩ := u_35
            obtain ⟨z_31, rfl, hI, hfr_36, hfr_37, h_32⟩ := w_30
            have hP : va_P (dC, dI) vwCl (mG ad ca g_33 a_34) H := hP
            have hD : va_D A (mG ad ca g_33 a_34) := hD
            have hfA : ∀ j, j ∉ ([86] : List Nat) → g_33 j = g j := fun j h => (hfr_36 j (fun q => h (by first | exact q | (simp only [List.mem_cons, List.not_mem_nil, or_false] at q ⊢ <;> omega)))).trans (hfA j h)
            have b_39 : g_33 30 = g 30 := hfA 30 (by decide)
            have b_40 : g_33 56 = g 56 := hfA 56 (by decide)
            have haA : ∀ j, j ∉ ([] : List Nat) → a_34 j = a j := fun j h => (hfr_37 j (fun q => h (by first | exact q | (simp only [List.mem_cons, List.not_mem_nil, or_false] at q ⊢ <;> omega)))).trans (haA j h)
            refine xr_if_eq (tgt := 49) hx hb dX13_stales_42 (by decide) (by omega) (fun h_41 => ?_) (fun h_41 => ?_)
            · exact J49 g_33 a_34 H locs ls hI hfA haA hP hD hS hl
            · refine lv_iconst (v := iI 1) hx hb dX13_stales_45 rfl ?_
              refine lv_goto (tgt := 50) hx hb dX13_stales_46 (by decide) ?_
              exact J50 1 g_33 a_34 H locs ls (by omega) hI hfA haA hP hD hS hl
    exact L14 ((((g 56) - 0 : Int)).toNat + 1) 0 0 g a H locs ls (by omega) (by omega) hI hfA haA (by omega) hP hD hS hl
  · refine lv_iconst (v := iI (-1)) hx hb dX13_stales_8 rfl ?_
    rw [← hQ]
    exact W.iret (v := iI (-1)) hx hb hr (fun t ht hW => ⟨⟨iI (-1), (g, a), rfl, ⟨(-1), rfl, hI, hfA, haA, by omega⟩, by rw [ht]; exact hP, va_K.moved hW.alike hK, hD⟩, hS.F ht⟩) hS.2.2 dX13_stales_9
