set_option maxHeartbeats 2000000 in
set_option maxRecDepth 100000 in
theorem sX13_pointer (l : Launch) (dC : Nat → ClassId) (dI : Nat → Nat → Nat) (sz : Nat) (ad : Nat → Nat) (ca : Nat → ClassId) (g : Nat → Int) (a : Nat → Int → Int) (p1 : Int) (p2 : Int) (p3 : Int) (p4 : Int) (hI : mI g a) (q1 : rg p1) (q2 : rg p2) (q3 : rg p3) (q4 : rg p4) : Met l yX13_pointer (jk yX13_pointer cX13_pointer 7 (some .int)) ({ frames := 2, cells := 0, slots := 0, locals := 48 }) (va_Pc [.ref (ad 0), .int (iI p1), .int (iI p2), .int (iI p3), .int (iI p4)] (jw_P (dC, dI) (mG ad ca g a) (mT ca) sz)) (va_Qi (fun (r : Int32) (u : (Nat → Int) × (Nat → Int → Int)) => ∃ z : Int, r = iI z ∧ (mI u.1 u.2) ∧ (∀ j, j ∉ ([37] : List Nat) → u.1 j = g j) ∧ (∀ j, j ∉ ([25, 26, 27, 31, 32, 35, 36, 66] : List Nat) → u.2 j = a j) ∧ (rg z)) (fun u t => va_P (dC, dI) vwCl (mG ad ca u.1 u.2) t.heap ∧ va_K (dC, dI) vwCl (mT ca) t ∧ va_D (va_A (mG ad ca g a) sz) (mG ad ca u.1 u.2)) (va_A (mG ad ca g a) sz)) 0 0 (va_A (mG ad ca g a) sz) := by
  refine Met.ofW (cc := cX13_pointer) (maxL := 7) (ret := (some .int)) (by decide) rfl ?_
  intro p e s m args below meth c s₁ B hml hv
  obtain ⟨rfl, hsz, hP, hK, hD0⟩ := hv
  have hx := B.exec
  have hb := B.bytes
  have hr := B.returns
  have hts := atoms_spec (ws := (jk yX13_pointer cX13_pointer 7 (some .int))) B.pre
  have hj : ∀ w ∈ jw, w.before ([.ref (ad 0), .int (iI p1), .int (iI p2), .int (iI p3), .int (iI p4)] : List Value).toArray s = true := fun w h => hts w (jm h)
  have hown : s.vm.findClass RX13 = some m.cls := findClass_of_methodNamed B.named
  subst hsz
  have hD := hD0.self (sz := s.heap.size)
  generalize hAe : (va_A (mG ad ca g a) s.heap.size) = A at hD ⊢
  have hA : ∀ q : Nat, s.heap.size ≤ q → A q := fun q h => by rw [← hAe]; exact Or.inr h
  have hS : va_S A s.heap s.heap [] := va_S.rf
  have hP : va_P (dC, dI) vwCl (mG ad ca g a) s.heap := hP
  have hfA : ∀ j, j ∉ ([37] : List Nat) → g j = g j := fun _ _ => rfl
  have haA : ∀ j, j ∉ ([25, 26, 27, 31, 32, 35, 36, 66] : List Nat) → a j = a j := fun _ _ => rfl
  have hl := lv_entry ([.ref (ad 0), .int (iI p1), .int (iI p2), .int (iI p3), .int (iI p4)]) (n := 7) (Nat.le_of_ble_eq_true rfl)
  rw [lg_entry_eq]
  generalize (lg_sl ([.ref (ad 0), .int (iI p1), .int (iI p2), .int (iI p3), .int (iI p4)]) ++ List.replicate (7 - (lg_sl ([.ref (ad 0), .int (iI p1), .int (iI p2), .int (iI p3), .int (iI p4)])).length) Slot.unset).toArray = ls at hl ⊢
  have hl : lv_has ls 7 [(0, .ref (ad 0)), (1, .int (iI p1)), (2, .int (iI p2)), (3, .int (iI p3)), (4, .int (iI p4))] := hl
  generalize hQ : MQ below (va_Qi (fun (r : Int32) (u : (Nat → Int) × (Nat → Int → Int)) => ∃ z : Int, r = iI z ∧ (mI u.1 u.2) ∧ (∀ j, j ∉ ([37] : List Nat) → u.1 j = g j) ∧ (∀ j, j ∉ ([25, 26, 27, 31, 32, 35, 36, 66] : List Nat) → u.2 j = a j) ∧ (rg z)) (fun u t => va_P (dC, dI) vwCl (mG ad ca u.1 u.2) t.heap ∧ va_K (dC, dI) vwCl (mT ca) t ∧ va_D A (mG ad ca u.1 u.2)) A) ([.ref (ad 0), .int (iI p1), .int (iI p2), .int (iI p3), .int (iI p4)] : List Value).toArray s 0 0 A = Q
  suffices ST : ∀ (H : Heap) (locs : List Loc), va_P (dC, dI) vwCl (mG ad ca g a) H → va_S A s.heap H locs → W p l e ({ frames := 2, cells := 0, slots := 0, locals := 48 }) s m ([.ref (ad 0), .int (iI p1), .int (iI p2), .int (iI p3), .int (iI p4)] : List Value).toArray below meth c H locs 0 0 Q (F0 m 0 ls []) from ST _ _ hP hS
  clear hP hS
  intro H locs hP hS
  refine lv_aload_n hx hb dX13_pointer_0 rfl (lv_at hl 0 rfl) ?_
  refine lv_iload_n hx hb dX13_pointer_1 rfl (lv_at hl 1 rfl) ?_
  refine lv_iload_n hx hb dX13_pointer_2 rfl (lv_at hl 2 rfl) ?_
  refine lv_iload_n hx hb dX13_pointer_3 rfl (lv_at hl 3 rfl) ?_
  refine jcg_i (va_runV (As := [.int (iI p1), .int (iI p2), .int (iI p3)]) (rest := []) ⟨hx, hb, hml, hown, hts⟩ (sX13_headingOf l dC dI _ ad ca g a p1 p2 p3 hI (by omega) (by omega) (by omega)) (cwV 3 hts (jgoodV m_254 m_360 m_361 m_503 m_145) rfl rfl rfl (by decide +kernel) ⟨(Nat.le_of_ble_eq_true rfl), (Nat.le_of_ble_eq_true rfl)⟩) ⟨jw_blind, va_recv hK hP (ci := 13) (q0 := 0) rfl rfl, fun U hU hW => ⟨rfl, jw_of hU hW hP hK hD⟩⟩ rfl rfl hl.1 rfl (lv_room (Nat.le_of_ble_eq_true rfl)) dX13_pointer_4 ⟨(Nat.le_of_ble_eq_true rfl), (Nat.le_of_ble_eq_true rfl)⟩) hD hS hA (fun r_1 u_7 H locs w_2 hP hK hD hS => ?_)
  obtain ⟨g_5, a_6⟩ := u_7
  obtain ⟨z_3, rfl, e_9, hI, hfr_8, h_4⟩ := w_2
  have hP : va_P (dC, dI) vwCl (mG ad ca g_5 a_6) H := hP
  have hD : va_D A (mG ad ca g_5 a_6) := hD
  have e_9 : g = g_5 := e_9.symm
  subst e_9
  have haA : ∀ j, j ∉ ([25, 26, 27, 31, 32, 35, 36, 66] : List Nat) → a_6 j = a j := fun j h => (hfr_8 j (fun q => h (by first | exact q | (simp only [List.mem_cons, List.not_mem_nil, or_false] at q ⊢ <;> omega)))).trans (haA j h)
  refine lv_istore (lv' := [(5, .int (iI z_3)), (0, .ref (ad 0)), (1, .int (iI p1)), (2, .int (iI p2)), (3, .int (iI p3)), (4, .int (iI p4))]) hx hb dX13_pointer_7 hl (by decide) rfl (fun ls hl => ?_)
  refine lv_iload hx hb dX13_pointer_9 (lv_at hl 0 rfl) ?_
  refine xr_if_eq (tgt := 23) hx hb dX13_pointer_11 (by decide) (by omega) (fun h_10 => ?_) (fun h_10 => ?_)
  · refine lv_iconst (v := iI (-1)) hx hb dX13_pointer_23 rfl ?_
    rw [← hQ]
    exact W.iret (v := iI (-1)) hx hb hr (fun t ht hW => ⟨⟨iI (-1), (g, a_6), rfl, ⟨(-1), rfl, hI, hfA, haA, by omega⟩, by rw [ht]; exact hP, va_K.moved hW.alike hK, hD⟩, hS.F ht⟩) hS.2.2 dX13_pointer_24
  · refine lv_aload_n hx hb dX13_pointer_14 rfl (lv_at hl 1 rfl) ?_
    refine lv_iload hx hb dX13_pointer_15 (lv_at hl 5 rfl) ?_
    refine jc_i (va_runV (As := [.int (iI p4)]) (rest := []) ⟨hx, hb, hml, hown, hts⟩ (sX13_isEntry l dC dI _ ad ca g a_6 p4 hI (by omega)) (cwV 1 hts (jgoodV m_253 m_378 m_379 m_503 m_155) rfl rfl rfl (by decide +kernel) ⟨(Nat.le_of_ble_eq_true rfl), (Nat.le_of_ble_eq_true rfl)⟩) ⟨jw_blind, va_recv hK hP (ci := 13) (q0 := 0) rfl rfl, fun U hU hW => ⟨rfl, jw_of hU hW hP hK hD⟩⟩ rfl rfl hl.1 rfl (lv_room (Nat.le_of_ble_eq_true rfl)) dX13_pointer_17 ⟨(Nat.le_of_ble_eq_true rfl), (Nat.le_of_ble_eq_true rfl)⟩) hP hS hA (fun r_11 H locs w_12 hP hS => ?_)
    obtain ⟨z_13, rfl, h_14, h_15⟩ := w_12
    have b_16 : 0 ≤ g 37 ∧ g 37 ≤ 60 := hI.1 37
    refine xr_if_ne (tgt := 25) hx hb dX13_pointer_20 (by decide) (by omega) (fun h_17 => ?_) (fun h_17 => ?_)
    · refine lv_aload_n hx hb dX13_pointer_25 rfl (lv_at hl 1 rfl) ?_
      refine lv_iconst (v := iI 1) hx hb dX13_pointer_26 rfl ?_
      refine lv_iload hx hb dX13_pointer_27 (lv_at hl 0 rfl) ?_
      refine jcg_i (va_runV (As := [.int (iI 1), .int (iI z_3)]) (rest := []) ⟨hx, hb, hml, hown, hts⟩ (sX13_newEntry l dC dI _ ad ca g a_6 1 z_3 hI (by omega) (by omega) (by omega) (by omega)) (cwV 2 hts (jgoodV m_255 m_431 m_432 m_503 m_183) rfl rfl rfl (by decide +kernel) ⟨(Nat.le_of_ble_eq_true rfl), (Nat.le_of_ble_eq_true rfl)⟩) ⟨jw_blind, va_recv hK hP (ci := 13) (q0 := 0) rfl rfl, fun U hU hW => ⟨rfl, jw_of hU hW hP hK hD⟩⟩ rfl rfl hl.1 rfl (lv_room (Nat.le_of_ble_eq_true rfl)) dX13_pointer_29 ⟨(Nat.le_of_ble_eq_true rfl), (Nat.le_of_ble_eq_true rfl)⟩) hD hS hA (fun r_18 u_24 H locs w_19 hP hK hD hS => ?_)
      obtain ⟨g_22, a_23⟩ := u_24
      obtain ⟨z_20, rfl, hI, hfr_25, hfr_26, h_21⟩ := w_19
      have hP : va_P (dC, dI) vwCl (mG ad ca g_22 a_23) H := hP
      have hD : va_D A (mG ad ca g_22 a_23) := hD
      have hfA : ∀ j, j ∉ ([37] : List Nat) → g_22 j = g j := fun j h => (hfr_25 j (fun q => h (by first | exact q | (simp only [List.mem_cons, List.not_mem_nil, or_false] at q ⊢ <;> omega)))).trans (hfA j h)
      have haA : ∀ j, j ∉ ([25, 26, 27, 31, 32, 35, 36, 66] : List Nat) → a_23 j = a j := fun j h => (hfr_26 j (fun q => h (by first | exact q | (simp only [List.mem_cons, List.not_mem_nil, or_false] at q ⊢ <;> omega)))).trans (haA j h)
      refine lv_istore (lv' := [(6, .int (iI z_20)), (5, .int (iI z_3)), (0, .ref (ad 0)), (1, .int (iI p1)), (2, .int (iI p2)), (3, .int (iI p3)), (4, .int (iI p4))]) hx hb dX13_pointer_32 hl (by decide) rfl (fun ls hl => ?_)
      refine lv_iload hx hb dX13_pointer_34 (lv_at hl 0 rfl) ?_
      refine lv_iconst (v := iI (-1)) hx hb dX13_pointer_36 rfl ?_
      refine xr_icmp_eq (tgt := 49) hx hb dX13_pointer_37 (by decide) (by omega) (by omega) (fun h_28 => ?_) (fun h_28 => ?_)
      · refine lv_iload hx hb dX13_pointer_49 (lv_at hl 0 rfl) ?_
        rw [← hQ]
        exact W.iret (v := iI z_20) hx hb hr (fun t ht hW => ⟨⟨iI z_20, (g_22, a_23), rfl, ⟨z_20, rfl, hI, hfA, haA, by omega⟩, by rw [ht]; exact hP, va_K.moved hW.alike hK, hD⟩, hS.F ht⟩) hS.2.2 dX13_pointer_51
      · refine lv_aload_n hx hb dX13_pointer_40 rfl (lv_at hl 2 rfl) ?_
        refine gf_leads hx hb hj hown hK hP dX13_pointer_41 ?_
        refine lv_iload hx hb dX13_pointer_44 (lv_at hl 0 rfl) ?_
        refine lv_iload hx hb dX13_pointer_46 (lv_at hl 6 rfl) ?_
        refine st_leads hx hb hK hP hD hS hI (by omega) (by omega) (by omega) (by omega) dX13_pointer_48 (fun a_29 H locs e_30 e_31 hI hP hD hS => ?_)
        have haA : ∀ j, j ∉ ([25, 26, 27, 31, 32, 35, 36, 66] : List Nat) → a_29 j = a j := fun j h => (e_30 j (fun q => h (q ▸ (by decide : 31 ∈ ([25, 26, 27, 31, 32, 35, 36, 66] : List Nat))))).trans (haA j h)
        refine lv_iload hx hb dX13_pointer_49 (lv_at hl 0 rfl) ?_
        rw [← hQ]
        exact W.iret (v := iI z_20) hx hb hr (fun t ht hW => ⟨⟨iI z_20, (g_22, a_29), rfl, ⟨z_20, rfl, hI, hfA, haA, by omega⟩, by rw [ht]; exact hP, va_K.moved hW.alike hK, hD⟩, hS.F ht⟩) hS.2.2 dX13_pointer_51
    · refine lv_iconst (v := iI (-1)) hx hb dX13_pointer_23 rfl ?_
      rw [← hQ]
      exact W.iret (v := iI (-1)) hx hb hr (fun t ht hW => ⟨⟨iI (-1), (g, a_6), rfl, ⟨(-1), rfl, hI, hfA, haA, by omega⟩, by rw [ht]; exact hP, va_K.moved hW.alike hK, hD⟩, hS.F ht⟩) hS.2.2 dX13_pointer_24
set_option maxHeartbeats 2000000 in
set_option maxRecDepth 100000 in
theorem sX13_plate (l : Launch) (dC : Nat → ClassId) (dI : Nat → Nat → Nat) (sz : Nat) (ad : Nat → Nat) (ca : Nat → ClassId) (g : Nat → Int) (a : Nat → Int → Int) (p1 : Int) (p2 : Int) (p3 : Int) (p4 : Int) (p5 : Int) (hI : mI g a) (q1 : rg p1) (q2 : rg p2) (q3 : rg p3) (q4 : rg p4) (q5 : rg p5) : Met l yX13_plate (jk yX13_plate cX13_plate 11 (some .int)) ({ frames := 2, cells := 0, slots := 0, locals := 48 }) (va_Pc [.ref (ad 0), .int (iI p1), .int (iI p2), .int (iI p3), .int (iI p4), .int (iI p5)] (jw_P (dC, dI) (mG ad ca g a) (mT ca) sz)) (va_Qi (fun (r : Int32) (u : (Nat → Int) × (Nat → Int → Int)) => ∃ z : Int, r = iI z ∧ (mI u.1 u.2) ∧ (∀ j, j ∉ ([37] : List Nat) → u.1 j = g j) ∧ (∀ j, j ∉ ([25, 26, 27, 31, 32, 35, 36, 66] : List Nat) → u.2 j = a j) ∧ (rg z)) (fun u t => va_P (dC, dI) vwCl (mG ad ca u.1 u.2) t.heap ∧ va_K (dC, dI) vwCl (mT ca) t ∧ va_D (va_A (mG ad ca g a) sz) (mG ad ca u.1 u.2)) (va_A (mG ad ca g a) sz)) 0 0 (va_A (mG ad ca g a) sz) := by
  refine Met.ofW (cc := cX13_plate) (maxL := 11) (ret := (some .int)) (by decide) rfl ?_
  intro p e s m args below meth c s₁ B hml hv
  obtain ⟨rfl, hsz, hP, hK, hD0⟩ := hv
  have hx := B.exec
  have hb := B.bytes
  have hr := B.returns
  have hts := atoms_spec (ws := (jk yX13_plate cX13_plate 11 (some .int))) B.pre
  have hj : ∀ w ∈ jw, w.before ([.ref (ad 0), .int (iI p1), .int (iI p2), .int (iI p3), .int (iI p4), .int (iI p5)] : List Value).toArray s = true := fun w h => hts w (jm h)
  have hown : s.vm.findClass RX13 = some m.cls := findClass_of_methodNamed B.named
  subst hsz
  have hD := hD0.self (sz := s.heap.size)
  generalize hAe : (va_A (mG ad ca g a) s.heap.size) = A at hD ⊢
  have hA : ∀ q : Nat, s.heap.size ≤ q → A q := fun q h => by rw [← hAe]; exact Or.inr h
  have hS : va_S A s.heap s.heap [] := va_S.rf
  have hP : va_P (dC, dI) vwCl (mG ad ca g a) s.heap := hP
  have hfA : ∀ j, j ∉ ([37] : List Nat) → g j = g j := fun _ _ => rfl
  have haA : ∀ j, j ∉ ([25, 26, 27, 31, 32, 35, 36, 66] : List Nat) → a j = a j := fun _ _ => rfl
  have hl := lv_entry ([.ref (ad 0), .int (iI p1), .int (iI p2), .int (iI p3), .int (iI p4), .int (iI p5)]) (n := 11) (Nat.le_of_ble_eq_true rfl)
  rw [lg_entry_eq]
  generalize (lg_sl ([.ref (ad 0), .int (iI p1), .int (iI p2), .int (iI p3), .int (iI p4), .int (iI p5)]) ++ List.replicate (11 - (lg_sl ([.ref (ad 0), .int (iI p1), .int (iI p2), .int (iI p3), .int (iI p4), .int (iI p5)])).length) Slot.unset).toArray = ls at hl ⊢
  have hl : lv_has ls 11 [(0, .ref (ad 0)), (1, .int (iI p1)), (2, .int (iI p2)), (3, .int (iI p3)), (4, .int (iI p4)), (5, .int (iI p5))] := hl
  generalize hQ : MQ below (va_Qi (fun (r : Int32) (u : (Nat → Int) × (Nat → Int → Int)) => ∃ z : Int, r = iI z ∧ (mI u.1 u.2) ∧ (∀ j, j ∉ ([37] : List Nat) → u.1 j = g j) ∧ (∀ j, j ∉ ([25, 26, 27, 31, 32, 35, 36, 66] : List Nat) → u.2 j = a j) ∧ (rg z)) (fun u t => va_P (dC, dI) vwCl (mG ad ca u.1 u.2) t.heap ∧ va_K (dC, dI) vwCl (mT ca) t ∧ va_D A (mG ad ca u.1 u.2)) A) ([.ref (ad 0), .int (iI p1), .int (iI p2), .int (iI p3), .int (iI p4), .int (iI p5)] : List Value).toArray s 0 0 A = Q
  suffices ST : ∀ (H : Heap) (locs : List Loc), va_P (dC, dI) vwCl (mG ad ca g a) H → va_S A s.heap H locs → W p l e ({ frames := 2, cells := 0, slots := 0, locals := 48 }) s m ([.ref (ad 0), .int (iI p1), .int (iI p2), .int (iI p3), .int (iI p4), .int (iI p5)] : List Value).toArray below meth c H locs 0 0 Q (F0 m 0 ls []) from ST _ _ hP hS
  clear hP hS
  intro H locs hP hS
  refine lv_aload_n hx hb dX13_plate_0 rfl (lv_at hl 0 rfl) ?_
  refine lv_iload_n hx hb dX13_plate_1 rfl (lv_at hl 1 rfl) ?_
  refine lv_iload_n hx hb dX13_plate_2 rfl (lv_at hl 2 rfl) ?_
  refine lv_iload_n hx hb dX13_plate_3 rfl (lv_at hl 3 rfl) ?_
  refine jcg_i (va_runV (As := [.int (iI p1), .int (iI p2), .int (iI p3)]) (rest := []) ⟨hx, hb, hml, hown, hts⟩ (sX13_headingOf l dC dI _ ad ca g a p1 p2 p3 hI (by omega) (by omega) (by omega)) (cwV 3 hts (jgoodV m_254 m_360 m_361 m_503 m_145) rfl rfl rfl (by decide +kernel) ⟨(Nat.le_of_ble_eq_true rfl), (Nat.le_of_ble_eq_true rfl)⟩) ⟨jw_blind, va_recv hK hP (ci := 13) (q0 := 0) rfl rfl, fun U hU hW => ⟨rfl, jw_of hU hW hP hK hD⟩⟩ rfl rfl hl.1 rfl (lv_room (Nat.le_of_ble_eq_true rfl)) dX13_plate_4 ⟨(Nat.le_of_ble_eq_true rfl), (Nat.le_of_ble_eq_true rfl)⟩) hD hS hA (fun r_1 u_7 H locs w_2 hP hK hD hS => ?_)
  obtain ⟨g_5, a_6⟩ := u_7
  obtain ⟨z_3, rfl, e_9, hI, hfr_8, h_4⟩ := w_2
  have hP : va_P (dC, dI) vwCl (mG ad ca g_5 a_6) H := hP
  have hD : va_D A (mG ad ca g_5 a_6) := hD
  have e_9 : g = g_5 := e_9.symm
  subst e_9
  have haA : ∀ j, j ∉ ([25, 26, 27, 31, 32, 35, 36, 66] : List Nat) → a_6 j = a j := fun j h => (hfr_8 j (fun q => h (by first | exact q | (simp only [List.mem_cons, List.not_mem_nil, or_false] at q ⊢ <;> omega)))).trans (haA j h)
  refine lv_istore (lv' := [(6, .int (iI z_3)), (0, .ref (ad 0)), (1, .int (iI p1)), (2, .int (iI p2)), (3, .int (iI p3)), (4, .int (iI p4)), (5, .int (iI p5))]) hx hb dX13_plate_7 hl (by decide) rfl (fun ls hl => ?_)
  refine lv_iload hx hb dX13_plate_9 (lv_at hl 0 rfl) ?_
  refine xr_if_eq (tgt := 29) hx hb dX13_plate_11 (by decide) (by omega) (fun h_10 => ?_) (fun h_10 => ?_)
  · refine lv_iconst (v := iI (-1)) hx hb dX13_plate_29 rfl ?_
    rw [← hQ]
    exact W.iret (v := iI (-1)) hx hb hr (fun t ht hW => ⟨⟨iI (-1), (g, a_6), rfl, ⟨(-1), rfl, hI, hfA, haA, by omega⟩, by rw [ht]; exact hP, va_K.moved hW.alike hK, hD⟩, hS.F ht⟩) hS.2.2 dX13_plate_30
  · refine lv_iload hx hb dX13_plate_14 (lv_at hl 5 rfl) ?_
    refine xr_if_lt (tgt := 29) hx hb dX13_plate_16 (by decide) (by omega) (fun h_11 => ?_) (fun h_11 => ?_)
    · refine lv_iconst (v := iI (-1)) hx hb dX13_plate_29 rfl ?_
      rw [← hQ]
      exact W.iret (v := iI (-1)) hx hb hr (fun t ht hW => ⟨⟨iI (-1), (g, a_6), rfl, ⟨(-1), rfl, hI, hfA, haA, by omega⟩, by rw [ht]; exact hP, va_K.moved hW.alike hK, hD⟩, hS.F ht⟩) hS.2.2 dX13_plate_30
    · refine lv_iload hx hb dX13_plate_19 (lv_at hl 6 rfl) ?_
      refine lv_iconst (v := iI 1) hx hb dX13_plate_21 rfl ?_
      refine lv_iconst (v := iI 4) hx hb dX13_plate_22 rfl ?_
      refine jc_i (va_runS (As := [.int (iI p5), .int (iI 1), .int (iI 4)]) (rest := []) ⟨hx, hb, hml, hown, hts⟩ (sX13_in l dC dI _ p5 1 4 (by omega) (by omega) (by omega)) (va_cwS 3 hts (jgoodS m_220 m_364 m_503 m_147) rfl rfl rfl (by decide +kernel) ⟨(Nat.le_of_ble_eq_true rfl), (Nat.le_of_ble_eq_true rfl)⟩) ⟨jw_blind0, fun U hU hW => ⟨rfl, congrArg Array.size hU⟩⟩ rfl rfl hl.1 rfl (lv_room (Nat.le_of_ble_eq_true rfl)) dX13_plate_23 ⟨(Nat.le_of_ble_eq_true rfl), (Nat.le_of_ble_eq_true rfl)⟩) hP hS hA (fun r_12 H locs w_13 hP hS => ?_)
      obtain ⟨z_14, rfl, h_15, h_16⟩ := w_13
      refine xr_if_ne (tgt := 31) hx hb dX13_plate_26 (by decide) (by omega) (fun h_17 => ?_) (fun h_17 => ?_)
      · refine lv_iload hx hb dX13_plate_31 (lv_at hl 5 rfl) ?_
        refine lv_istore (lv' := [(7, .int (iI p4)), (6, .int (iI z_3)), (0, .ref (ad 0)), (1, .int (iI p1)), (2, .int (iI p2)), (3, .int (iI p3)), (4, .int (iI p4)), (5, .int (iI p5))]) hx hb dX13_plate_33 hl (by decide) rfl (fun ls hl => ?_)
        refine lv_iconst (v := iI 0) hx hb dX13_plate_35 rfl ?_
        refine lv_istore (lv' := [(8, .int (iI 0)), (7, .int (iI p4)), (6, .int (iI z_3)), (0, .ref (ad 0)), (1, .int (iI p1)), (2, .int (iI p2)), (3, .int (iI p3)), (4, .int (iI p4)), (5, .int (iI p5))]) hx hb dX13_plate_36 hl (by decide) rfl (fun ls hl => ?_)
        have L38 : ∀ (n38 : Nat) (v8_38 v7_38 : Int) (H : Heap) (locs : List Loc) (ls : Array Slot), (0 ≤ v8_38 ∧ v8_38 ≤ 2147483647) → (0 ≤ v7_38 ∧ v7_38 ≤ 2147483647) → (0 < (n38 : Int) ∧ p5 - v8_38 < (n38 : Int)) → va_P (dC, dI) vwCl (mG ad ca g a_6) H → va_D A (mG ad ca g a_6) → va_S A s.heap H locs → lv_has ls 11 [(8, .int (iI v8_38)), (7, .int (iI v7_38)), (6, .int (iI z_3)), (0, .ref (ad 0)), (1, .int (iI p1)), (2, .int (iI p2)), (3, .int (iI p3)), (4, .int (iI p4)), (5, .int (iI p5))] → W p l e ({ frames := 2, cells := 0, slots := 0, locals := 48 }) s m ([.ref (ad 0), .int (iI p1), .int (iI p2), .int (iI p3), .int (iI p4), .int (iI p5)] : List Value).toArray below meth c H locs 0 0 Q (F0 m 38 ls []) := by
          intro n38
          induction n38 with
          | zero =>
            intro v8_38 v7_38 H locs ls h_18 h_19 hm38 hP hD hS hl
            exfalso; omega
          | succ n38 ih38 =>
            intro v8_38 v7_38 H locs ls h_20 h_21 hm38 hP hD hS hl
            refine lv_iload hx hb dX13_plate_38 (lv_at hl 0 rfl) ?_
            refine lv_iload hx hb dX13_plate_40 (lv_at hl 8 rfl) ?_
            refine xr_icmp_ge (tgt := 120) hx hb dX13_plate_42 (by decide) (by omega) (by omega) (fun h_22 => ?_) (fun h_22 => ?_)
            · refine lv_iload hx hb dX13_plate_120 (lv_at hl 1 rfl) ?_
              refine xr_if_le (tgt := 129) hx hb dX13_plate_122 (by decide) (by omega) (fun h_23 => ?_) (fun h_23 => ?_)
              · refine lv_aload_n hx hb dX13_plate_129 rfl (lv_at hl 3 rfl) ?_
                refine lv_iconst (v := iI 2) hx hb dX13_plate_130 rfl ?_
                refine lv_iload hx hb dX13_plate_131 (lv_at hl 2 rfl) ?_
                refine jcg_i (va_runV (As := [.int (iI 2), .int (iI z_3)]) (rest := []) ⟨hx, hb, hml, hown, hts⟩ (sX13_newEntry l dC dI _ ad ca g a_6 2 z_3 hI (by omega) (by omega) (by omega) (by omega)) (cwV 2 hts (jgoodV m_255 m_431 m_432 m_503 m_183) rfl rfl rfl (by decide +kernel) ⟨(Nat.le_of_ble_eq_true rfl), (Nat.le_of_ble_eq_true rfl)⟩) ⟨jw_blind, va_recv hK hP (ci := 13) (q0 := 0) rfl rfl, fun U hU hW => ⟨rfl, jw_of hU hW hP hK hD⟩⟩ rfl rfl hl.1 rfl (lv_room (Nat.le_of_ble_eq_true rfl)) dX13_plate_133 ⟨(Nat.le_of_ble_eq_true rfl), (Nat.le_of_ble_eq_true rfl)⟩) hD hS hA (fun r_24 u_30 H locs w_25 hP hK hD hS => ?_)
                obtain ⟨g_28, a_29⟩ := u_30
                obtain ⟨z_26, rfl, hI, hfr_31, hfr_32, h_27⟩ := w_25
                have hP : va_P (dC, dI) vwCl (mG ad ca g_28 a_29) H := hP
                have hD : va_D A (mG ad ca g_28 a_29) := hD
                have hfA : ∀ j, j ∉ ([37] : List Nat) → g_28 j = g j := fun j h => (hfr_31 j (fun q => h (by first | exact q | (simp only [List.mem_cons, List.not_mem_nil, or_false] at q ⊢ <;> omega)))).trans (hfA j h)
                have haA : ∀ j, j ∉ ([25, 26, 27, 31, 32, 35, 36, 66] : List Nat) → a_29 j = a j := fun j h => (hfr_32 j (fun q => h (by first | exact q | (simp only [List.mem_cons, List.not_mem_nil, or_false] at q ⊢ <;> omega)))).trans (haA j h)
                rw [← hQ]
                exact W.iret (v := iI z_26) hx hb hr (fun t ht hW => ⟨⟨iI z_26, (g_28, a_29), rfl, ⟨z_26, rfl, hI, hfA, haA, by omega⟩, by rw [ht]; exact hP, va_K.moved hW.alike hK, hD⟩, hS.F ht⟩) hS.2.2 dX13_plate_136
              · refine lv_iconst (v := iI (-1)) hx hb dX13_plate_125 rfl ?_
                refine lv_goto (tgt := 136) hx hb dX13_plate_126 (by decide) ?_
                rw [← hQ]
                exact W.iret (v := iI (-1)) hx hb hr (fun t ht hW => ⟨⟨iI (-1), (g, a_6), rfl, ⟨(-1), rfl, hI, hfA, haA, by omega⟩, by rw [ht]; exact hP, va_K.moved hW.alike hK, hD⟩, hS.F ht⟩) hS.2.2 dX13_plate_136
            · refine lv_aload_n hx hb dX13_plate_45 rfl (lv_at hl 3 rfl) ?_
              refine lv_iload hx hb dX13_plate_46 (lv_at hl 1 rfl) ?_
              refine lv_bipush (v := iI 100) hx hb dX13_plate_48 rfl ?_
              refine xr_rem hx hb dX13_plate_50 (by omega) (by omega) (by omega) (by omega) ?_
              refine jc_i (va_runV (As := [.int (iI (v7_38 % 100))]) (rest := []) ⟨hx, hb, hml, hown, hts⟩ (sX13_isEntry l dC dI _ ad ca g a_6 (v7_38 % 100) hI (by omega)) (cwV 1 hts (jgoodV m_253 m_378 m_379 m_503 m_155) rfl rfl rfl (by decide +kernel) ⟨(Nat.le_of_ble_eq_true rfl), (Nat.le_of_ble_eq_true rfl)⟩) ⟨jw_blind, va_recv hK hP (ci := 13) (q0 := 0) rfl rfl, fun U hU hW => ⟨rfl, jw_of hU hW hP hK hD⟩⟩ rfl rfl hl.1 rfl (lv_room (Nat.le_of_ble_eq_true rfl)) dX13_plate_51 ⟨(Nat.le_of_ble_eq_true rfl), (Nat.le_of_ble_eq_true rfl)⟩) hP hS hA (fun r_34 H locs w_35 hP hS => ?_)
              obtain ⟨z_36, rfl, h_37, h_38⟩ := w_35
              have b_39 : 0 ≤ g 37 ∧ g 37 ≤ 60 := hI.1 37
              refine xr_if_ne (tgt := 59) hx hb dX13_plate_54 (by decide) (by omega) (fun h_40 => ?_) (fun h_40 => ?_)
              · refine lv_iload hx hb dX13_plate_59 (lv_at hl 1 rfl) ?_
                refine lv_bipush (v := iI 100) hx hb dX13_plate_61 rfl ?_
                refine xr_div hx hb dX13_plate_63 (by omega) (by omega) (by omega) (by omega) ?_
                refine lv_istore (lv' := [(9, .int (iI (v7_38 / 100))), (8, .int (iI v8_38)), (7, .int (iI v7_38)), (6, .int (iI z_3)), (0, .ref (ad 0)), (1, .int (iI p1)), (2, .int (iI p2)), (3, .int (iI p3)), (4, .int (iI p4)), (5, .int (iI p5))]) hx hb dX13_plate_64 hl (by decide) rfl (fun ls hl => ?_)
                refine lv_iload hx hb dX13_plate_66 (lv_at hl 1 rfl) ?_
                refine lv_iconst (v := iI 1) hx hb dX13_plate_68 rfl ?_
                refine xr_add hx hb dX13_plate_69 ?_
                refine lv_istore (lv' := [(10, .int (iI (v8_38 + 1))), (9, .int (iI (v7_38 / 100))), (8, .int (iI v8_38)), (7, .int (iI v7_38)), (6, .int (iI z_3)), (0, .ref (ad 0)), (1, .int (iI p1)), (2, .int (iI p2)), (3, .int (iI p3)), (4, .int (iI p4)), (5, .int (iI p5))]) hx hb dX13_plate_70 hl (by decide) rfl (fun ls hl => ?_)
                have L72 : ∀ (n72 : Nat) (v10_72 v9_72 : Int) (H : Heap) (locs : List Loc) (ls : Array Slot), (1 ≤ v10_72 ∧ v10_72 ≤ 2147483647) → (0 ≤ v9_72 ∧ v9_72 ≤ 21474836) → (0 < (n72 : Int) ∧ p5 - v10_72 < (n72 : Int)) → va_P (dC, dI) vwCl (mG ad ca g a_6) H → va_D A (mG ad ca g a_6) → va_S A s.heap H locs → lv_has ls 11 [(10, .int (iI v10_72)), (9, .int (iI v9_72)), (8, .int (iI v8_38)), (7, .int (iI v7_38)), (6, .int (iI z_3)), (0, .ref (ad 0)), (1, .int (iI p1)), (2, .int (iI p2)), (3, .int (iI p3)), (4, .int (iI p4)), (5, .int (iI p5))] → W p l e ({ frames := 2, cells := 0, slots := 0, locals := 48 }) s m ([.ref (ad 0), .int (iI p1), .int (iI p2), .int (iI p3), .int (iI p4), .int (iI p5)] : List Value).toArray below meth c H locs 0 0 Q (F0 m 72 ls []) := by
                  intro n72
                  induction n72 with
                  | zero =>
                    intro v10_72 v9_72 H locs ls h_41 h_42 hm72 hP hD hS hl
                    exfalso; omega
                  | succ n72 ih72 =>
                    intro v10_72 v9_72 H locs ls h_43 h_44 hm72 hP hD hS hl
                    refine lv_iload hx hb dX13_plate_72 (lv_at hl 0 rfl) ?_
                    refine lv_iload hx hb dX13_plate_74 (lv_at hl 10 rfl) ?_
                    refine xr_icmp_ge (tgt := 107) hx hb dX13_plate_76 (by decide) (by omega) (by omega) (fun h_45 => ?_) (fun h_45 => ?_)
                    · refine lv_iload hx hb dX13_plate_107 (lv_at hl 3 rfl) ?_
                      refine lv_bipush (v := iI 100) hx hb dX13_plate_109 rfl ?_
                      refine xr_div hx hb dX13_plate_111 (by omega) (by omega) (by omega) (by omega) ?_
                      refine lv_istore (lv' := [(7, .int (iI (v7_38 / 100))), (10, .int (iI v10_72)), (9, .int (iI v9_72)), (8, .int (iI v8_38)), (6, .int (iI z_3)), (0, .ref (ad 0)), (1, .int (iI p1)), (2, .int (iI p2)), (3, .int (iI p3)), (4, .int (iI p4)), (5, .int (iI p5))]) hx hb dX13_plate_112 hl (by decide) rfl (fun ls hl => ?_)
                      refine lv_iinc (v := iI (v8_38 + 1)) (lv' := [(8, .int (iI (v8_38 + 1))), (7, .int (iI (v7_38 / 100))), (10, .int (iI v10_72)), (9, .int (iI v9_72)), (6, .int (iI z_3)), (0, .ref (ad 0)), (1, .int (iI p1)), (2, .int (iI p2)), (3, .int (iI p3)), (4, .int (iI p4)), (5, .int (iI p5))]) hx hb dX13_plate_114 hl (k := 3) rfl (iI_add _ _) (by decide) rfl (fun ls hl => ?_)
                      refine lv_goto (tgt := 38) hx hb dX13_plate_117 (by decide) ?_
                      exact ih38 (v8_38 + 1) (v7_38 / 100) H locs ls (by omega) (by omega) (by omega) hP hD hS (lv_sub hl [0, 1, 4, 5, 6, 7, 8, 9, 10] rfl)
                    · refine lv_iload hx hb dX13_plate_79 (lv_at hl 1 rfl) ?_
                      refine lv_bipush (v := iI 100) hx hb dX13_plate_81 rfl ?_
                      refine xr_rem hx hb dX13_plate_83 (by omega) (by omega) (by omega) (by omega) ?_
                      refine lv_iload hx hb dX13_plate_84 (lv_at hl 3 rfl) ?_
                      refine lv_bipush (v := iI 100) hx hb dX13_plate_86 rfl ?_
                      refine xr_rem hx hb dX13_plate_88 (by omega) (by omega) (by omega) (by omega) ?_
                      refine xr_icmp_ne (tgt := 94) hx hb dX13_plate_89 (by decide) (by omega) (by omega) (fun h_46 => ?_) (fun h_46 => ?_)
                      · refine lv_iload hx hb dX13_plate_94 (lv_at hl 1 rfl) ?_
                        refine lv_bipush (v := iI 100) hx hb dX13_plate_96 rfl ?_
                        refine xr_div hx hb dX13_plate_98 (by omega) (by omega) (by omega) (by omega) ?_
                        refine lv_istore (lv' := [(9, .int (iI (v9_72 / 100))), (10, .int (iI v10_72)), (8, .int (iI v8_38)), (7, .int (iI v7_38)), (6, .int (iI z_3)), (0, .ref (ad 0)), (1, .int (iI p1)), (2, .int (iI p2)), (3, .int (iI p3)), (4, .int (iI p4)), (5, .int (iI p5))]) hx hb dX13_plate_99 hl (by decide) rfl (fun ls hl => ?_)
                        refine lv_iinc (v := iI (v10_72 + 1)) (lv' := [(10, .int (iI (v10_72 + 1))), (9, .int (iI (v9_72 / 100))), (8, .int (iI v8_38)), (7, .int (iI v7_38)), (6, .int (iI z_3)), (0, .ref (ad 0)), (1, .int (iI p1)), (2, .int (iI p2)), (3, .int (iI p3)), (4, .int (iI p4)), (5, .int (iI p5))]) hx hb dX13_plate_101 hl (k := 1) rfl (iI_add _ _) (by decide) rfl (fun ls hl => ?_)
                        refine lv_goto (tgt := 72) hx hb dX13_plate_104 (by decide) ?_
                        exact ih72 (v10_72 + 1) (v9_72 / 100) H locs ls (by omega) (by omega) (by omega) hP hD hS hl
                      · refine lv_iconst (v := iI (-1)) hx hb dX13_plate_92 rfl ?_
                        rw [← hQ]
                        exact W.iret (v := iI (-1)) hx hb hr (fun t ht hW => ⟨⟨iI (-1), (g, a_6), rfl, ⟨(-1), rfl, hI, hfA, haA, by omega⟩, by rw [ht]; exact hP, va_K.moved hW.alike hK, hD⟩, hS.F ht⟩) hS.2.2 dX13_plate_93
                exact L72 (((p5 - (v8_38 + 1) : Int)).toNat + 1) (v8_38 + 1) (v7_38 / 100) H locs ls (by omega) (by omega) (by omega) hP hD hS hl
              · refine lv_iconst (v := iI (-1)) hx hb dX13_plate_57 rfl ?_
                rw [← hQ]
                exact W.iret (v := iI (-1)) hx hb hr (fun t ht hW => ⟨⟨iI (-1), (g, a_6), rfl, ⟨(-1), rfl, hI, hfA, haA, by omega⟩, by rw [ht]; exact hP, va_K.moved hW.alike hK, hD⟩, hS.F ht⟩) hS.2.2 dX13_plate_58
        exact L38 (((p5 - 0 : Int)).toNat + 1) 0 p4 H locs ls (by omega) (by omega) (by omega) hP hD hS hl
      · refine lv_iconst (v := iI (-1)) hx hb dX13_plate_29 rfl ?_
        rw [← hQ]
        exact W.iret (v := iI (-1)) hx hb hr (fun t ht hW => ⟨⟨iI (-1), (g, a_6), rfl, ⟨(-1), rfl, hI, hfA, haA, by omega⟩, by rw [ht]; exact hP, va_K.moved hW.alike hK, hD⟩, hS.F ht⟩) hS.2.2 dX13_plate_30
set_option maxHeartbeats 2000000 in
set_option maxRecDepth 100000 in
theorem sX13_points (l : Launch) (dC : Nat → ClassId) (dI : Nat → Nat → Nat) (sz : Nat) (ad : Nat → Nat) (ca : Nat → ClassId) (g : Nat → Int) (a : Nat → Int → Int) (p1 : Int) (p2 : Int) (hI : mI g a) (q1 : rg p1) (q2 : rg p2) : Met l yX13_points (jk yX13_points cX13_points 3 (some .boolean)) ({ frames := 2, cells := 0, slots := 0, locals := 43 }) (va_Pc [.ref (ad 0), .int (iI p1), .int (iI p2)] (jw_P (dC, dI) (mG ad ca g a) (mT ca) sz)) (va_Qi (fun (r : Int32) (u : (Nat → Int) × (Nat → Int → Int)) => ∃ z : Int, r = iI z ∧ (u.1 = g) ∧ (mI u.1 u.2) ∧ (∀ j, j ∉ ([31] : List Nat) → u.2 j = a j) ∧ (0 ≤ z ∧ z ≤ 1)) (fun u t => va_P (dC, dI) vwCl (mG ad ca u.1 u.2) t.heap ∧ va_K (dC, dI) vwCl (mT ca) t ∧ va_D (va_A (mG ad ca g a) sz) (mG ad ca u.1 u.2)) (va_A (mG ad ca g a) sz)) 0 0 (va_A (mG ad ca g a) sz) := by
  refine Met.ofW (cc := cX13_points) (maxL := 3) (ret := (some .boolean)) (by decide) rfl ?_
  intro p e s m args below meth c s₁ B hml hv
  obtain ⟨rfl, hsz, hP, hK, hD0⟩ := hv
  have hx := B.exec
  have hb := B.bytes
  have hr := B.returns
  have hts := atoms_spec (ws := (jk yX13_points cX13_points 3 (some .boolean))) B.pre
  have hj : ∀ w ∈ jw, w.before ([.ref (ad 0), .int (iI p1), .int (iI p2)] : List Value).toArray s = true := fun w h => hts w (jm h)
  have hown : s.vm.findClass RX13 = some m.cls := findClass_of_methodNamed B.named
  subst hsz
  have hD := hD0.self (sz := s.heap.size)
  generalize hAe : (va_A (mG ad ca g a) s.heap.size) = A at hD ⊢
  have hA : ∀ q : Nat, s.heap.size ≤ q → A q := fun q h => by rw [← hAe]; exact Or.inr h
  have hS : va_S A s.heap s.heap [] := va_S.rf
  have hP : va_P (dC, dI) vwCl (mG ad ca g a) s.heap := hP
  have haA : ∀ j, j ∉ ([31] : List Nat) → a j = a j := fun _ _ => rfl
  have hl := lv_entry ([.ref (ad 0), .int (iI p1), .int (iI p2)]) (n := 3) (Nat.le_of_ble_eq_true rfl)
  rw [lg_entry_eq]
  generalize (lg_sl ([.ref (ad 0), .int (iI p1), .int (iI p2)]) ++ List.replicate (3 - (lg_sl ([.ref (ad 0), .int (iI p1), .int (iI p2)])).length) Slot.unset).toArray = ls at hl ⊢
  have hl : lv_has ls 3 [(0, .ref (ad 0)), (1, .int (iI p1)), (2, .int (iI p2))] := hl
  generalize hQ : MQ below (va_Qi (fun (r : Int32) (u : (Nat → Int) × (Nat → Int → Int)) => ∃ z : Int, r = iI z ∧ (u.1 = g) ∧ (mI u.1 u.2) ∧ (∀ j, j ∉ ([31] : List Nat) → u.2 j = a j) ∧ (0 ≤ z ∧ z ≤ 1)) (fun u t => va_P (dC, dI) vwCl (mG ad ca u.1 u.2) t.heap ∧ va_K (dC, dI) vwCl (mT ca) t ∧ va_D A (mG ad ca u.1 u.2)) A) ([.ref (ad 0), .int (iI p1), .int (iI p2)] : List Value).toArray s 0 0 A = Q
  suffices ST : ∀ (H : Heap) (locs : List Loc), va_P (dC, dI) vwCl (mG ad ca g a) H → va_S A s.heap H locs → W p l e ({ frames := 2, cells := 0, slots := 0, locals := 43 }) s m ([.ref (ad 0), .int (iI p1), .int (iI p2)] : List Value).toArray below meth c H locs 0 0 Q (F0 m 0 ls []) from ST _ _ hP hS
  clear hP hS
  intro H locs hP hS
  refine lv_aload_n hx hb dX13_points_0 rfl (lv_at hl 0 rfl) ?_
  refine lv_iload_n hx hb dX13_points_1 rfl (lv_at hl 1 rfl) ?_
  refine jc_i (va_runV (As := [.int (iI p1)]) (rest := []) ⟨hx, hb, hml, hown, hts⟩ (sX13_isEntry l dC dI _ ad ca g a p1 hI (by omega)) (cwV 1 hts (jgoodV m_253 m_378 m_379 m_503 m_155) rfl rfl rfl (by decide +kernel) ⟨(Nat.le_of_ble_eq_true rfl), (Nat.le_of_ble_eq_true rfl)⟩) ⟨jw_blind, va_recv hK hP (ci := 13) (q0 := 0) rfl rfl, fun U hU hW => ⟨rfl, jw_of hU hW hP hK hD⟩⟩ rfl rfl hl.1 rfl (lv_room (Nat.le_of_ble_eq_true rfl)) dX13_points_2 ⟨(Nat.le_of_ble_eq_true rfl), (Nat.le_of_ble_eq_true rfl)⟩) hP hS hA (fun r_1 H locs w_2 hP hS => ?_)
  obtain ⟨z_3, rfl, h_4, h_5⟩ := w_2
  have b_6 : 0 ≤ g 37 ∧ g 37 ≤ 60 := hI.1 37
  refine xr_if_eq (tgt := 36) hx hb dX13_points_5 (by decide) (by omega) (fun h_7 => ?_) (fun h_7 => ?_)
  · refine lv_iconst (v := iI 0) hx hb dX13_points_36 rfl ?_
    rw [← hQ]
    exact W.zret (v := iI 0) (ty := .boolean) hx hb hr (nb_bool (by omega) (by omega)) (fun t ht hW => ⟨⟨iI 0, (g, a), rfl, ⟨0, rfl, rfl, hI, haA, by omega⟩, by rw [ht]; exact hP, va_K.moved hW.alike hK, hD⟩, hS.F ht⟩) hS.2.2 dX13_points_37
  · refine lv_aload_n hx hb dX13_points_8 rfl (lv_at hl 0 rfl) ?_
    refine gf_kind hx hb hj hown hK hP dX13_points_9 ?_
    refine lv_iload_n hx hb dX13_points_12 rfl (lv_at hl 1 rfl) ?_
    refine ld_kind hx hb hK hP hI (by omega) (by omega) dX13_points_13 (fun h_8 => ?_)
    refine lv_iconst (v := iI 1) hx hb dX13_points_14 rfl ?_
    refine xr_icmp_ne (tgt := 36) hx hb dX13_points_15 (by decide) (by omega) (by omega) (fun h_9 => ?_) (fun h_9 => ?_)
    · refine lv_iconst (v := iI 0) hx hb dX13_points_36 rfl ?_
      rw [← hQ]
      exact W.zret (v := iI 0) (ty := .boolean) hx hb hr (nb_bool (by omega) (by omega)) (fun t ht hW => ⟨⟨iI 0, (g, a), rfl, ⟨0, rfl, rfl, hI, haA, by omega⟩, by rw [ht]; exact hP, va_K.moved hW.alike hK, hD⟩, hS.F ht⟩) hS.2.2 dX13_points_37
    · refine lv_aload_n hx hb dX13_points_18 rfl (lv_at hl 0 rfl) ?_
      refine gf_setWith hx hb hj hown hK hP dX13_points_19 ?_
      refine lv_iload_n hx hb dX13_points_22 rfl (lv_at hl 1 rfl) ?_
      refine ld_setWith hx hb hK hP hI (by omega) (by omega) dX13_points_23 (fun h_10 => ?_)
      refine lv_iconst (v := iI (-1)) hx hb dX13_points_24 rfl ?_
      refine xr_icmp_ne (tgt := 36) hx hb dX13_points_25 (by decide) (by omega) (by omega) (fun h_11 => ?_) (fun h_11 => ?_)
      · refine lv_iconst (v := iI 0) hx hb dX13_points_36 rfl ?_
        rw [← hQ]
        exact W.zret (v := iI 0) (ty := .boolean) hx hb hr (nb_bool (by omega) (by omega)) (fun t ht hW => ⟨⟨iI 0, (g, a), rfl, ⟨0, rfl, rfl, hI, haA, by omega⟩, by rw [ht]; exact hP, va_K.moved hW.alike hK, hD⟩, hS.F ht⟩) hS.2.2 dX13_points_37
      · refine lv_aload_n hx hb dX13_points_28 rfl (lv_at hl 0 rfl) ?_
        refine lv_iload_n hx hb dX13_points_29 rfl (lv_at hl 2 rfl) ?_
        refine jc_i (va_runV (As := [.int (iI p2)]) (rest := []) ⟨hx, hb, hml, hown, hts⟩ (sX13_isEntry l dC dI _ ad ca g a p2 hI (by omega)) (cwV 1 hts (jgoodV m_253 m_378 m_379 m_503 m_155) rfl rfl rfl (by decide +kernel) ⟨(Nat.le_of_ble_eq_true rfl), (Nat.le_of_ble_eq_true rfl)⟩) ⟨jw_blind, va_recv hK hP (ci := 13) (q0 := 0) rfl rfl, fun U hU hW => ⟨rfl, jw_of hU hW hP hK hD⟩⟩ rfl rfl hl.1 rfl (lv_room (Nat.le_of_ble_eq_true rfl)) dX13_points_30 ⟨(Nat.le_of_ble_eq_true rfl), (Nat.le_of_ble_eq_true rfl)⟩) hP hS hA (fun r_12 H locs w_13 hP hS => ?_)
        obtain ⟨z_14, rfl, h_15, h_16⟩ := w_13
        have b_17 : 0 ≤ g 37 ∧ g 37 ≤ 60 := hI.1 37
        refine xr_if_ne (tgt := 38) hx hb dX13_points_33 (by decide) (by omega) (fun h_18 => ?_) (fun h_18 => ?_)
        · refine lv_aload_n hx hb dX13_points_38 rfl (lv_at hl 0 rfl) ?_
          refine gf_leads hx hb hj hown hK hP dX13_points_39 ?_
          refine lv_iload_n hx hb dX13_points_42 rfl (lv_at hl 1 rfl) ?_
          refine lv_iload_n hx hb dX13_points_43 rfl (lv_at hl 2 rfl) ?_
          refine st_leads hx hb hK hP hD hS hI (by omega) (by omega) (by omega) (by omega) dX13_points_44 (fun a_19 H locs e_20 e_21 hI hP hD hS => ?_)
          have haA : ∀ j, j ∉ ([31] : List Nat) → a_19 j = a j := fun j h => (e_20 j (fun q => h (q ▸ (by decide : 31 ∈ ([31] : List Nat))))).trans (haA j h)
          refine lv_iconst (v := iI 1) hx hb dX13_points_45 rfl ?_
          rw [← hQ]
          exact W.zret (v := iI 1) (ty := .boolean) hx hb hr (nb_bool (by omega) (by omega)) (fun t ht hW => ⟨⟨iI 1, (g, a_19), rfl, ⟨1, rfl, rfl, hI, haA, by omega⟩, by rw [ht]; exact hP, va_K.moved hW.alike hK, hD⟩, hS.F ht⟩) hS.2.2 dX13_points_46
        · refine lv_iconst (v := iI 0) hx hb dX13_points_36 rfl ?_
          rw [← hQ]
          exact W.zret (v := iI 0) (ty := .boolean) hx hb hr (nb_bool (by omega) (by omega)) (fun t ht hW => ⟨⟨iI 0, (g, a), rfl, ⟨0, rfl, rfl, hI, haA, by omega⟩, by rw [ht]; exact hP, va_K.moved hW.alike hK, hD⟩, hS.F ht⟩) hS.2.2 dX13_points_37
set_option maxHeartbeats 2000000 in
set_option maxRecDepth 100000 in
theorem sX13_byKey (l : Launch) (dC : Nat → ClassId) (dI : Nat → Nat → Nat) (sz : Nat) (ad : Nat → Nat) (ca : Nat → ClassId) (g : Nat → Int) (a : Nat → Int → Int) (p1 : Int) (hI : mI g a) (q1 : rg p1) (k1 : 0 ≤ p1 ∧ p1 < 60) : Met l yX13_byKey (jk yX13_byKey cX13_byKey 7 (some .int)) ({ frames := 5, cells := 0, slots := 0, locals := 141 }) (va_Pc [.ref (ad 0), .int (iI p1)] (jw_P (dC, dI) (mG ad ca g a) (mT ca) sz)) (va_Qi (fun (r : Int32) (u : (Nat → Int) × (Nat → Int → Int)) => ∃ z : Int, r = iI z ∧ (u.1 = g) ∧ (mI u.1 u.2) ∧ (∀ j, j ∉ ([63, 64] : List Nat) → u.2 j = a j) ∧ (0 ≤ z ∧ z ≤ 5)) (fun u t => va_P (dC, dI) vwCl (mG ad ca u.1 u.2) t.heap ∧ va_K (dC, dI) vwCl (mT ca) t ∧ va_D (va_A (mG ad ca g a) sz) (mG ad ca u.1 u.2)) (va_A (mG ad ca g a) sz)) 0 0 (va_A (mG ad ca g a) sz) := by
  refine Met.ofW (cc := cX13_byKey) (maxL := 7) (ret := (some .int)) (by decide) rfl ?_
  intro p e s m args below meth c s₁ B hml hv
  obtain ⟨rfl, hsz, hP, hK, hD0⟩ := hv
  have hx := B.exec
  have hb := B.bytes
  have hr := B.returns
  have hts := atoms_spec (ws := (jk yX13_byKey cX13_byKey 7 (some .int))) B.pre
  have hj : ∀ w ∈ jw, w.before ([.ref (ad 0), .int (iI p1)] : List Value).toArray s = true := fun w h => hts w (jm h)
  have hown : s.vm.findClass RX13 = some m.cls := findClass_of_methodNamed B.named
  subst hsz
  have hD := hD0.self (sz := s.heap.size)
  generalize hAe : (va_A (mG ad ca g a) s.heap.size) = A at hD ⊢
  have hA : ∀ q : Nat, s.heap.size ≤ q → A q := fun q h => by rw [← hAe]; exact Or.inr h
  have hS : va_S A s.heap s.heap [] := va_S.rf
  have hP : va_P (dC, dI) vwCl (mG ad ca g a) s.heap := hP
  have haA : ∀ j, j ∉ ([63, 64] : List Nat) → a j = a j := fun _ _ => rfl
  have hl := lv_entry ([.ref (ad 0), .int (iI p1)]) (n := 7) (Nat.le_of_ble_eq_true rfl)
  rw [lg_entry_eq]
  generalize (lg_sl ([.ref (ad 0), .int (iI p1)]) ++ List.replicate (7 - (lg_sl ([.ref (ad 0), .int (iI p1)])).length) Slot.unset).toArray = ls at hl ⊢
  have hl : lv_has ls 7 [(0, .ref (ad 0)), (1, .int (iI p1))] := hl
  generalize hQ : MQ below (va_Qi (fun (r : Int32) (u : (Nat → Int) × (Nat → Int → Int)) => ∃ z : Int, r = iI z ∧ (u.1 = g) ∧ (mI u.1 u.2) ∧ (∀ j, j ∉ ([63, 64] : List Nat) → u.2 j = a j) ∧ (0 ≤ z ∧ z ≤ 5)) (fun u t => va_P (dC, dI) vwCl (mG ad ca u.1 u.2) t.heap ∧ va_K (dC, dI) vwCl (mT ca) t ∧ va_D A (mG ad ca u.1 u.2)) A) ([.ref (ad 0), .int (iI p1)] : List Value).toArray s 0 0 A = Q
  suffices ST : ∀ (H : Heap) (locs : List Loc), va_P (dC, dI) vwCl (mG ad ca g a) H → va_S A s.heap H locs → W p l e ({ frames := 5, cells := 0, slots := 0, locals := 141 }) s m ([.ref (ad 0), .int (iI p1)] : List Value).toArray below meth c H locs 0 0 Q (F0 m 0 ls []) from ST _ _ hP hS
  clear hP hS
  intro H locs hP hS
  refine lv_aload_n hx hb dX13_byKey_0 rfl (lv_at hl 0 rfl) ?_
  refine lv_iload_n hx hb dX13_byKey_1 rfl (lv_at hl 1 rfl) ?_
  refine lv_bipush (v := iI 6) hx hb dX13_byKey_2 rfl ?_
  refine lv_iconst (v := iI 0) hx hb dX13_byKey_4 rfl ?_
  refine lv_aload_n hx hb dX13_byKey_5 rfl (lv_at hl 0 rfl) ?_
  refine gf_keyOne hx hb hj hown hK hP dX13_byKey_6 ?_
  refine jcg_i (va_runV (As := [.int (iI p1), .int (iI 6), .int (iI 0), .ref (ad 64)]) (rest := []) ⟨hx, hb, hml, hown, hts⟩ (sX13_key_q64 l dC dI _ ad ca g a p1 6 0 hI (by omega) (by omega) (by omega) (by omega)) (cwV 4 hts (jgoodV m_251 m_400 m_401 m_503 m_167) rfl rfl rfl (by decide +kernel) ⟨(Nat.le_of_ble_eq_true rfl), (Nat.le_of_ble_eq_true rfl)⟩) ⟨jw_blind, va_recv hK hP (ci := 13) (q0 := 0) rfl rfl, fun U hU hW => ⟨rfl, jw_of hU hW hP hK hD⟩⟩ rfl rfl hl.1 rfl (lv_room (Nat.le_of_ble_eq_true rfl)) dX13_byKey_9 ⟨(Nat.le_of_ble_eq_true rfl), (Nat.le_of_ble_eq_true rfl)⟩) hD hS hA (fun r_1 u_7 H locs w_2 hP hK hD hS => ?_)
  obtain ⟨g_5, a_6⟩ := u_7
  obtain ⟨z_3, rfl, e_9, hI, hfr_8, h_4⟩ := w_2
  have hP : va_P (dC, dI) vwCl (mG ad ca g_5 a_6) H := hP
  have hD : va_D A (mG ad ca g_5 a_6) := hD
  have e_9 : g = g_5 := e_9.symm
  subst e_9
  have haA : ∀ j, j ∉ ([63, 64] : List Nat) → a_6 j = a j := fun j h => (hfr_8 j (fun q => h (by first | exact q | (simp only [List.mem_cons, List.not_mem_nil, or_false] at q ⊢ <;> omega)))).trans (haA j h)
  refine lv_pop hx hb dX13_byKey_12 rfl ?_
  refine lv_aload_n hx hb dX13_byKey_13 rfl (lv_at hl 0 rfl) ?_
  refine lv_iconst (v := iI 0) hx hb dX13_byKey_14 rfl ?_
  refine lv_bipush (v := iI 6) hx hb dX13_byKey_15 rfl ?_
  refine lv_aload_n hx hb dX13_byKey_17 rfl (lv_at hl 0 rfl) ?_
  refine gf_now hx hb hj hown hK hP hI dX13_byKey_18 (fun h_10 => ?_)
  refine jcg_i (va_runV (As := [.int (iI 0), .int (iI 6), .int (iI (g 30))]) (rest := []) ⟨hx, hb, hml, hown, hts⟩ (sX13_tells l dC dI _ ad ca g a_6 0 6 (g 30) hI (by omega) (by omega) (by omega) (by omega)) (cwV 3 hts (jgoodV m_249 m_484 m_485 m_503 m_210) rfl rfl rfl (by decide +kernel) ⟨(Nat.le_of_ble_eq_true rfl), (Nat.le_of_ble_eq_true rfl)⟩) ⟨jw_blind, va_recv hK hP (ci := 13) (q0 := 0) rfl rfl, fun U hU hW => ⟨rfl, jw_of hU hW hP hK hD⟩⟩ rfl rfl hl.1 rfl (lv_room (Nat.le_of_ble_eq_true rfl)) dX13_byKey_21 ⟨(Nat.le_of_ble_eq_true rfl), (Nat.le_of_ble_eq_true rfl)⟩) hD hS hA (fun r_11 u_17 H locs w_12 hP hK hD hS => ?_)
  obtain ⟨g_15, a_16⟩ := u_17
  obtain ⟨z_13, rfl, e_19, hI, hfr_18, h_14⟩ := w_12
  have hP : va_P (dC, dI) vwCl (mG ad ca g_15 a_16) H := hP
  have hD : va_D A (mG ad ca g_15 a_16) := hD
  have e_19 : g = g_15 := e_19.symm
  subst e_19
  have haA : ∀ j, j ∉ ([63, 64] : List Nat) → a_16 j = a j := fun j h => (hfr_18 j (fun q => h (by first | exact q | (simp only [List.mem_cons, List.not_mem_nil, or_false] at q ⊢ <;> omega)))).trans (haA j h)
  refine lv_iconst (v := iI 1) hx hb dX13_byKey_24 rfl ?_
  have J33 : ∀ (s0_33 : Int) (H : Heap) (locs : List Loc) (ls : Array Slot), (0 ≤ s0_33 ∧ s0_33 ≤ 1) → va_P (dC, dI) vwCl (mG ad ca g a_16) H → va_D A (mG ad ca g a_16) → va_S A s.heap H locs → lv_has ls 7 [(0, .ref (ad 0)), (1, .int (iI p1))] → W p l e ({ frames := 5, cells := 0, slots := 0, locals := 141 }) s m ([.ref (ad 0), .int (iI p1)] : List Value).toArray below meth c H locs 0 0 Q (F0 m 33 ls [.int (iI s0_33)]) := by
    intro s0_33 H locs ls h_20 hP hD hS hl
    refine lv_istore_n (lv' := [(2, .int (iI s0_33)), (0, .ref (ad 0)), (1, .int (iI p1))]) hx hb dX13_byKey_33 rfl hl (by decide) rfl (fun ls hl => ?_)
    refine lv_aload_n hx hb dX13_byKey_34 rfl (lv_at hl 1 rfl) ?_
    refine gf_keyOne hx hb hj hown hK hP dX13_byKey_35 ?_
    refine lv_iconst (v := iI 0) hx hb dX13_byKey_38 rfl ?_
    refine ld_keyOne hx hb hK hP hI (by omega) (by omega) dX13_byKey_39 (fun h_21 => ?_)
    refine lv_istore_n (lv' := [(3, .int (iI (a_16 64 0))), (2, .int (iI s0_33)), (0, .ref (ad 0)), (1, .int (iI p1))]) hx hb dX13_byKey_40 rfl hl (by decide) rfl (fun ls hl => ?_)
    refine lv_iload_n hx hb dX13_byKey_41 rfl (lv_at hl 1 rfl) ?_
    have J70 : ∀ (s0_70 : Int) (H : Heap) (locs : List Loc) (ls : Array Slot), (0 ≤ s0_70 ∧ s0_70 ≤ 1) → va_P (dC, dI) vwCl (mG ad ca g a_16) H → va_D A (mG ad ca g a_16) → va_S A s.heap H locs → lv_has ls 7 [(3, .int (iI (a_16 64 0))), (2, .int (iI s0_33)), (0, .ref (ad 0)), (1, .int (iI p1))] → W p l e ({ frames := 5, cells := 0, slots := 0, locals := 141 }) s m ([.ref (ad 0), .int (iI p1)] : List Value).toArray below meth c H locs 0 0 Q (F0 m 70 ls [.int (iI s0_70)]) := by
      intro s0_70 H locs ls h_22 hP hD hS hl
      refine lv_istore (lv' := [(4, .int (iI s0_70)), (3, .int (iI (a_16 64 0))), (2, .int (iI s0_33)), (0, .ref (ad 0)), (1, .int (iI p1))]) hx hb dX13_byKey_70 hl (by decide) rfl (fun ls hl => ?_)
      refine lv_iload hx hb dX13_byKey_72 (lv_at hl 0 rfl) ?_
      refine xr_if_eq (tgt := 87) hx hb dX13_byKey_74 (by decide) (by omega) (fun h_23 => ?_) (fun h_23 => ?_)
      · refine lv_iload_n hx hb dX13_byKey_87 rfl (lv_at hl 2 rfl) ?_
        have J101 : ∀ (s0_101 : Int) (H : Heap) (locs : List Loc) (ls : Array Slot), ((-2147483648) ≤ s0_101 ∧ s0_101 ≤ 2147483647) → va_P (dC, dI) vwCl (mG ad ca g a_16) H → va_D A (mG ad ca g a_16) → va_S A s.heap H locs → lv_has ls 7 [(4, .int (iI s0_70)), (3, .int (iI (a_16 64 0))), (2, .int (iI s0_33)), (0, .ref (ad 0)), (1, .int (iI p1))] → W p l e ({ frames := 5, cells := 0, slots := 0, locals := 141 }) s m ([.ref (ad 0), .int (iI p1)] : List Value).toArray below meth c H locs 0 0 Q (F0 m 101 ls [.int (iI s0_101)]) := by
          intro s0_101 H locs ls h_24 hP hD hS hl
          refine lv_istore (lv' := [(5, .int (iI s0_101)), (4, .int (iI s0_70)), (3, .int (iI (a_16 64 0))), (2, .int (iI s0_33)), (0, .ref (ad 0)), (1, .int (iI p1))]) hx hb dX13_byKey_101 hl (by decide) rfl (fun ls hl => ?_)
          refine lv_iconst (v := iI 0) hx hb dX13_byKey_103 rfl ?_
          refine lv_istore (lv' := [(6, .int (iI 0)), (5, .int (iI s0_101)), (4, .int (iI s0_70)), (3, .int (iI (a_16 64 0))), (2, .int (iI s0_33)), (0, .ref (ad 0)), (1, .int (iI p1))]) hx hb dX13_byKey_104 hl (by decide) rfl (fun ls hl => ?_)
          have L106 : ∀ (n106 : Nat) (v6_106 : Int) (H : Heap) (locs : List Loc) (ls : Array Slot), (0 ≤ v6_106 ∧ v6_106 ≤ 2147483647) → (0 < (n106 : Int) ∧ 5 - v6_106 < (n106 : Int)) → va_P (dC, dI) vwCl (mG ad ca g a_16) H → va_D A (mG ad ca g a_16) → va_S A s.heap H locs → lv_has ls 7 [(6, .int (iI v6_106)), (5, .int (iI s0_101)), (4, .int (iI s0_70)), (3, .int (iI (a_16 64 0))), (2, .int (iI s0_33)), (0, .ref (ad 0)), (1, .int (iI p1))] → W p l e ({ frames := 5, cells := 0, slots := 0, locals := 141 }) s m ([.ref (ad 0), .int (iI p1)] : List Value).toArray below meth c H locs 0 0 Q (F0 m 106 ls []) := by
            intro n106
            induction n106 with
            | zero =>
              intro v6_106 H locs ls h_25 hm106 hP hD hS hl
              exfalso; omega
            | succ n106 ih106 =>
              intro v6_106 H locs ls h_26 hm106 hP hD hS hl
              refine lv_iload hx hb dX13_byKey_106 (lv_at hl 0 rfl) ?_
              refine lv_iconst (v := iI 5) hx hb dX13_byKey_108 rfl ?_
              refine xr_icmp_ge (tgt := 133) hx hb dX13_byKey_109 (by decide) (by omega) (by omega) (fun h_27 => ?_) (fun h_27 => ?_)
              · refine lv_iconst (v := iI 5) hx hb dX13_byKey_133 rfl ?_
                rw [← hQ]
                exact W.iret (v := iI 5) hx hb hr (fun t ht hW => ⟨⟨iI 5, (g, a_16), rfl, ⟨5, rfl, rfl, hI, haA, by omega⟩, by rw [ht]; exact hP, va_K.moved hW.alike hK, hD⟩, hS.F ht⟩) hS.2.2 dX13_byKey_134
              · refine lv_iload hx hb dX13_byKey_112 (lv_at hl 1 rfl) ?_
                refine lv_aload_n hx hb dX13_byKey_114 rfl (lv_at hl 5 rfl) ?_
                refine gf_bounds hx hb hj hown hK hP dX13_byKey_115 ?_
                refine lv_iload hx hb dX13_byKey_118 (lv_at hl 0 rfl) ?_
                refine ld_bounds hx hb hK hP hI (by omega) (by omega) dX13_byKey_120 (fun h_28 => ?_)
                refine xr_icmp_gt (tgt := 127) hx hb dX13_byKey_121 (by decide) (by omega) (by omega) (fun h_29 => ?_) (fun h_29 => ?_)
                · refine lv_iinc (v := iI (v6_106 + 1)) (lv' := [(6, .int (iI (v6_106 + 1))), (5, .int (iI s0_101)), (4, .int (iI s0_70)), (3, .int (iI (a_16 64 0))), (2, .int (iI s0_33)), (0, .ref (ad 0)), (1, .int (iI p1))]) hx hb dX13_byKey_127 hl (k := 0) rfl (iI_add _ _) (by decide) rfl (fun ls hl => ?_)
                  refine lv_goto (tgt := 106) hx hb dX13_byKey_130 (by decide) ?_
                  exact ih106 (v6_106 + 1) H locs ls (by omega) (by omega) hP hD hS hl
                · refine lv_iload hx hb dX13_byKey_124 (lv_at hl 0 rfl) ?_
                  rw [← hQ]
                  exact W.iret (v := iI v6_106) hx hb hr (fun t ht hW => ⟨⟨iI v6_106, (g, a_16), rfl, ⟨v6_106, rfl, rfl, hI, haA, by omega⟩, by rw [ht]; exact hP, va_K.moved hW.alike hK, hD⟩, hS.F ht⟩) hS.2.2 dX13_byKey_126
          exact L106 (((5 - 0 : Int)).toNat + 1) 0 H locs ls (by omega) (by omega) hP hD hS hl
        refine xr_if_eq (tgt := 98) hx hb dX13_byKey_88 (by decide) (by omega) (fun h_30 => ?_) (fun h_30 => ?_)
        · refine lv_iload_n hx hb dX13_byKey_98 rfl (lv_at hl 1 rfl) ?_
          refine lv_iconst (v := iI 1) hx hb dX13_byKey_99 rfl ?_
          refine xr_sub hx hb dX13_byKey_100 ?_
          refine xr_kept (fun z_31 h_32 h_33 => ?_)
          exact J101 z_31 H locs ls (by omega) hP hD hS hl
        · refine lv_iload_n hx hb dX13_byKey_91 rfl (lv_at hl 1 rfl) ?_
          refine lv_bipush (v := iI 11) hx hb dX13_byKey_92 rfl ?_
          refine xr_sub hx hb dX13_byKey_94 ?_
          refine xr_kept (fun z_34 h_35 h_36 => ?_)
          refine lv_goto (tgt := 101) hx hb dX13_byKey_95 (by decide) ?_
          exact J101 z_34 H locs ls (by omega) hP hD hS hl
      · refine lv_iload_n hx hb dX13_byKey_77 rfl (lv_at hl 2 rfl) ?_
        refine xr_if_eq (tgt := 85) hx hb dX13_byKey_78 (by decide) (by omega) (fun h_37 => ?_) (fun h_37 => ?_)
        · refine lv_iconst (v := iI 5) hx hb dX13_byKey_85 rfl ?_
          rw [← hQ]
          exact W.iret (v := iI 5) hx hb hr (fun t ht hW => ⟨⟨iI 5, (g, a_16), rfl, ⟨5, rfl, rfl, hI, haA, by omega⟩, by rw [ht]; exact hP, va_K.moved hW.alike hK, hD⟩, hS.F ht⟩) hS.2.2 dX13_byKey_86
        · refine lv_iconst (v := iI 0) hx hb dX13_byKey_81 rfl ?_
          refine lv_goto (tgt := 86) hx hb dX13_byKey_82 (by decide) ?_
          rw [← hQ]
          exact W.iret (v := iI 0) hx hb hr (fun t ht hW => ⟨⟨iI 0, (g, a_16), rfl, ⟨0, rfl, rfl, hI, haA, by omega⟩, by rw [ht]; exact hP, va_K.moved hW.alike hK, hD⟩, hS.F ht⟩) hS.2.2 dX13_byKey_86
    refine xr_if_eq (tgt := 59) hx hb dX13_byKey_42 (by decide) (by omega) (fun h_38 => ?_) (fun h_38 => ?_)
    · refine lv_iload_n hx hb dX13_byKey_59 rfl (lv_at hl 0 rfl) ?_
      refine lv_bipush (v := iI 26) hx hb dX13_byKey_60 rfl ?_
      refine xr_icmp_le (tgt := 69) hx hb dX13_byKey_62 (by decide) (by omega) (by omega) (fun h_39 => ?_) (fun h_39 => ?_)
      · refine lv_iconst (v := iI 0) hx hb dX13_byKey_69 rfl ?_
        exact J70 0 H locs ls (by omega) hP hD hS hl
      · refine lv_iconst (v := iI 1) hx hb dX13_byKey_65 rfl ?_
        refine lv_goto (tgt := 70) hx hb dX13_byKey_66 (by decide) ?_
        exact J70 1 H locs ls (by omega) hP hD hS hl
    · refine lv_iload_n hx hb dX13_byKey_45 rfl (lv_at hl 0 rfl) ?_
      refine lv_bipush (v := iI 10) hx hb dX13_byKey_46 rfl ?_
      refine xr_icmp_gt (tgt := 55) hx hb dX13_byKey_48 (by decide) (by omega) (by omega) (fun h_40 => ?_) (fun h_40 => ?_)
      · refine lv_iconst (v := iI 0) hx hb dX13_byKey_55 rfl ?_
        refine lv_goto (tgt := 70) hx hb dX13_byKey_56 (by decide) ?_
        exact J70 0 H locs ls (by omega) hP hD hS hl
      · refine lv_iconst (v := iI 1) hx hb dX13_byKey_51 rfl ?_
        refine lv_goto (tgt := 70) hx hb dX13_byKey_52 (by decide) ?_
        exact J70 1 H locs ls (by omega) hP hD hS hl
  refine xr_icmp_ne (tgt := 32) hx hb dX13_byKey_25 (by decide) (by omega) (by omega) (fun h_41 => ?_) (fun h_41 => ?_)
  · refine lv_iconst (v := iI 0) hx hb dX13_byKey_32 rfl ?_
    exact J33 0 H locs ls (by omega) hP hD hS hl
  · refine lv_iconst (v := iI 1) hx hb dX13_byKey_28 rfl ?_
    refine lv_goto (tgt := 33) hx hb dX13_byKey_29 (by decide) ?_
    exact J33 1 H locs ls (by omega) hP hD hS hl
