set_option maxHeartbeats 2000000 in
set_option maxRecDepth 100000 in
theorem sX13_give (l : Launch) (dC : Nat → ClassId) (dI : Nat → Nat → Nat) (sz : Nat) (ad : Nat → Nat) (ca : Nat → ClassId) (g : Nat → Int) (a : Nat → Int → Int) (p1 : Int) (p2 : Int) (hI : mI g a) (q1 : rg p1) (q2 : rg p2) (hrSh : rSh g a) : Met l yX13_give (jk yX13_give cX13_give 3 (some .boolean)) ({ frames := 9, cells := 0, slots := 0, locals := 218 }) (va_Pc [.ref (ad 0), .int (iI p1), .int (iI p2)] (jw_P (dC, dI) (mG ad ca g a) (mT ca) sz)) (va_Qi (fun (r : Int32) (u : (Nat → Int) × (Nat → Int → Int)) => ∃ z : Int, r = iI z ∧ (u.1 = g) ∧ (mI u.1 u.2) ∧ (∀ j, j ∉ ([32, 62, 63, 64] : List Nat) → u.2 j = a j) ∧ (0 ≤ z ∧ z ≤ 1)) (fun u t => va_P (dC, dI) vwCl (mG ad ca u.1 u.2) t.heap ∧ va_K (dC, dI) vwCl (mT ca) t ∧ va_D (va_A (mG ad ca g a) sz) (mG ad ca u.1 u.2)) (va_A (mG ad ca g a) sz)) 0 0 (va_A (mG ad ca g a) sz) := by
  refine Met.ofW (cc := cX13_give) (maxL := 3) (ret := (some .boolean)) (by decide) rfl ?_
  intro p e s m args below meth c s₁ B hml hv
  obtain ⟨rfl, hsz, hP, hK, hD0⟩ := hv
  have hx := B.exec
  have hb := B.bytes
  have hr := B.returns
  have hts := atoms_spec (ws := (jk yX13_give cX13_give 3 (some .boolean))) B.pre
  have hj : ∀ w ∈ jw, w.before ([.ref (ad 0), .int (iI p1), .int (iI p2)] : List Value).toArray s = true := fun w h => hts w (jm h)
  have hown : s.vm.findClass RX13 = some m.cls := findClass_of_methodNamed B.named
  subst hsz
  have hD := hD0.self (sz := s.heap.size)
  generalize hAe : (va_A (mG ad ca g a) s.heap.size) = A at hD ⊢
  have hA : ∀ q : Nat, s.heap.size ≤ q → A q := fun q h => by rw [← hAe]; exact Or.inr h
  have hS : va_S A s.heap s.heap [] := va_S.rf
  have hP : va_P (dC, dI) vwCl (mG ad ca g a) s.heap := hP
  have haA : ∀ j, j ∉ ([32, 62, 63, 64] : List Nat) → a j = a j := fun _ _ => rfl
  have hl := lv_entry ([.ref (ad 0), .int (iI p1), .int (iI p2)]) (n := 3) (Nat.le_of_ble_eq_true rfl)
  rw [lg_entry_eq]
  generalize (lg_sl ([.ref (ad 0), .int (iI p1), .int (iI p2)]) ++ List.replicate (3 - (lg_sl ([.ref (ad 0), .int (iI p1), .int (iI p2)])).length) Slot.unset).toArray = ls at hl ⊢
  have hl : lv_has ls 3 [(0, .ref (ad 0)), (1, .int (iI p1)), (2, .int (iI p2))] := hl
  generalize hQ : MQ below (va_Qi (fun (r : Int32) (u : (Nat → Int) × (Nat → Int → Int)) => ∃ z : Int, r = iI z ∧ (u.1 = g) ∧ (mI u.1 u.2) ∧ (∀ j, j ∉ ([32, 62, 63, 64] : List Nat) → u.2 j = a j) ∧ (0 ≤ z ∧ z ≤ 1)) (fun u t => va_P (dC, dI) vwCl (mG ad ca u.1 u.2) t.heap ∧ va_K (dC, dI) vwCl (mT ca) t ∧ va_D A (mG ad ca u.1 u.2)) A) ([.ref (ad 0), .int (iI p1), .int (iI p2)] : List Value).toArray s 0 0 A = Q
  suffices ST : ∀ (H : Heap) (locs : List Loc), va_P (dC, dI) vwCl (mG ad ca g a) H → va_S A s.heap H locs → W p l e ({ frames := 9, cells := 0, slots := 0, locals := 218 }) s m ([.ref (ad 0), .int (iI p1), .int (iI p2)] : List Value).toArray below meth c H locs 0 0 Q (F0 m 0 ls []) from ST _ _ hP hS
  clear hP hS
  intro H locs hP hS
  refine lv_aload_n hx hb dX13_give_0 rfl (lv_at hl 0 rfl) ?_
  refine lv_iload_n hx hb dX13_give_1 rfl (lv_at hl 1 rfl) ?_
  refine lv_iload_n hx hb dX13_give_2 rfl (lv_at hl 2 rfl) ?_
  refine jcg_i (va_runV (As := [.int (iI p1), .int (iI p2)]) (rest := []) ⟨hx, hb, hml, hown, hts⟩ (sX13_mayBeGiven l dC dI _ ad ca g a p1 p2 hI (by omega) (by omega) hrSh) (cwV 2 hts (jgoodV m_268 m_420 m_421 m_503 m_177) rfl rfl rfl (by decide +kernel) ⟨(Nat.le_of_ble_eq_true rfl), (Nat.le_of_ble_eq_true rfl)⟩) ⟨jw_blind, va_recv hK hP (ci := 13) (q0 := 0) rfl rfl, fun U hU hW => ⟨rfl, jw_of hU hW hP hK hD⟩⟩ rfl rfl hl.1 rfl (lv_room (Nat.le_of_ble_eq_true rfl)) dX13_give_3 ⟨(Nat.le_of_ble_eq_true rfl), (Nat.le_of_ble_eq_true rfl)⟩) hD hS hA (fun r_1 u_8 H locs w_2 hP hK hD hS => ?_)
  obtain ⟨g_6, a_7⟩ := u_8
  obtain ⟨z_3, rfl, e_10, hI, hfr_9, h_4, h_5⟩ := w_2
  have hP : va_P (dC, dI) vwCl (mG ad ca g_6 a_7) H := hP
  have hD : va_D A (mG ad ca g_6 a_7) := hD
  have e_10 : g = g_6 := e_10.symm
  subst e_10
  have haA : ∀ j, j ∉ ([32, 62, 63, 64] : List Nat) → a_7 j = a j := fun j h => (hfr_9 j (fun q => h (by first | exact q | (simp only [List.mem_cons, List.not_mem_nil, or_false] at q ⊢ <;> omega)))).trans (haA j h)
  have b_11 : 0 ≤ g 37 ∧ g 37 ≤ 60 := hI.1 37
  have b_12 : 0 ≤ g 50 ∧ g 50 ≤ 12 := hI.1 50
  refine xr_if_ne (tgt := 11) hx hb dX13_give_6 (by decide) (by omega) (fun h_13 => ?_) (fun h_13 => ?_)
  · refine lv_aload_n hx hb dX13_give_11 rfl (lv_at hl 0 rfl) ?_
    refine gf_givenTo hx hb hj hown hK hP dX13_give_12 ?_
    refine lv_iload_n hx hb dX13_give_15 rfl (lv_at hl 1 rfl) ?_
    refine lv_iload_n hx hb dX13_give_16 rfl (lv_at hl 2 rfl) ?_
    refine st_givenTo hx hb hK hP hD hS hI (by omega) (by omega) (by omega) (by omega) dX13_give_17 (fun a_14 H locs e_15 e_16 hI hP hD hS => ?_)
    have haA : ∀ j, j ∉ ([32, 62, 63, 64] : List Nat) → a_14 j = a j := fun j h => (e_15 j (fun q => h (q ▸ (by decide : 32 ∈ ([32, 62, 63, 64] : List Nat))))).trans (haA j h)
    refine lv_iconst (v := iI 1) hx hb dX13_give_18 rfl ?_
    rw [← hQ]
    exact W.zret (v := iI 1) (ty := .boolean) hx hb hr (nb_bool (by omega) (by omega)) (fun t ht hW => ⟨⟨iI 1, (g, a_14), rfl, ⟨1, rfl, rfl, hI, haA, by omega⟩, by rw [ht]; exact hP, va_K.moved hW.alike hK, hD⟩, hS.F ht⟩) hS.2.2 dX13_give_19
  · refine lv_iconst (v := iI 0) hx hb dX13_give_9 rfl ?_
    rw [← hQ]
    exact W.zret (v := iI 0) (ty := .boolean) hx hb hr (nb_bool (by omega) (by omega)) (fun t ht hW => ⟨⟨iI 0, (g, a_7), rfl, ⟨0, rfl, rfl, hI, haA, by omega⟩, by rw [ht]; exact hP, va_K.moved hW.alike hK, hD⟩, hS.F ht⟩) hS.2.2 dX13_give_10
set_option maxHeartbeats 2000000 in
set_option maxRecDepth 100000 in
theorem sX13_line (l : Launch) (dC : Nat → ClassId) (dI : Nat → Nat → Nat) (sz : Nat) (ad : Nat → Nat) (ca : Nat → ClassId) (g : Nat → Int) (a : Nat → Int → Int) (p1 : Int) (p2 : Int) (p3 : Int) (hI : mI g a) (q1 : rg p1) (q2 : rg p2) (q3 : rg p3) (hrSh : rSh g a) (hrLine : rLine g a) : Met l yX13_line (jk yX13_line cX13_line 7 (some .int)) ({ frames := 8, cells := 0, slots := 0, locals := 195 }) (va_Pc [.ref (ad 0), .int (iI p1), .int (iI p2), .int (iI p3)] (jw_P (dC, dI) (mG ad ca g a) (mT ca) sz)) (va_Qi (fun (r : Int32) (u : (Nat → Int) × (Nat → Int → Int)) => ∃ z : Int, r = iI z ∧ (mI u.1 u.2) ∧ (∀ j, j ∉ ([56] : List Nat) → u.1 j = g j) ∧ (∀ j, j ∉ ([42, 43, 44, 45, 46, 47, 48, 49, 62, 63, 64] : List Nat) → u.2 j = a j) ∧ (rg z) ∧ (rLine u.1 u.2)) (fun u t => va_P (dC, dI) vwCl (mG ad ca u.1 u.2) t.heap ∧ va_K (dC, dI) vwCl (mT ca) t ∧ va_D (va_A (mG ad ca g a) sz) (mG ad ca u.1 u.2)) (va_A (mG ad ca g a) sz)) 0 0 (va_A (mG ad ca g a) sz) := by
  refine Met.ofW (cc := cX13_line) (maxL := 7) (ret := (some .int)) (by decide) rfl ?_
  intro p e s m args below meth c s₁ B hml hv
  obtain ⟨rfl, hsz, hP, hK, hD0⟩ := hv
  have hx := B.exec
  have hb := B.bytes
  have hr := B.returns
  have hts := atoms_spec (ws := (jk yX13_line cX13_line 7 (some .int))) B.pre
  have hj : ∀ w ∈ jw, w.before ([.ref (ad 0), .int (iI p1), .int (iI p2), .int (iI p3)] : List Value).toArray s = true := fun w h => hts w (jm h)
  have hown : s.vm.findClass RX13 = some m.cls := findClass_of_methodNamed B.named
  subst hsz
  have hD := hD0.self (sz := s.heap.size)
  generalize hAe : (va_A (mG ad ca g a) s.heap.size) = A at hD ⊢
  have hA : ∀ q : Nat, s.heap.size ≤ q → A q := fun q h => by rw [← hAe]; exact Or.inr h
  have hS : va_S A s.heap s.heap [] := va_S.rf
  have hP : va_P (dC, dI) vwCl (mG ad ca g a) s.heap := hP
  have hfA : ∀ j, j ∉ ([56] : List Nat) → g j = g j := fun _ _ => rfl
  have haA : ∀ j, j ∉ ([42, 43, 44, 45, 46, 47, 48, 49, 62, 63, 64] : List Nat) → a j = a j := fun _ _ => rfl
  have hl := lv_entry ([.ref (ad 0), .int (iI p1), .int (iI p2), .int (iI p3)]) (n := 7) (Nat.le_of_ble_eq_true rfl)
  rw [lg_entry_eq]
  generalize (lg_sl ([.ref (ad 0), .int (iI p1), .int (iI p2), .int (iI p3)]) ++ List.replicate (7 - (lg_sl ([.ref (ad 0), .int (iI p1), .int (iI p2), .int (iI p3)])).length) Slot.unset).toArray = ls at hl ⊢
  have hl : lv_has ls 7 [(0, .ref (ad 0)), (1, .int (iI p1)), (2, .int (iI p2)), (3, .int (iI p3))] := hl
  generalize hQ : MQ below (va_Qi (fun (r : Int32) (u : (Nat → Int) × (Nat → Int → Int)) => ∃ z : Int, r = iI z ∧ (mI u.1 u.2) ∧ (∀ j, j ∉ ([56] : List Nat) → u.1 j = g j) ∧ (∀ j, j ∉ ([42, 43, 44, 45, 46, 47, 48, 49, 62, 63, 64] : List Nat) → u.2 j = a j) ∧ (rg z) ∧ (rLine u.1 u.2)) (fun u t => va_P (dC, dI) vwCl (mG ad ca u.1 u.2) t.heap ∧ va_K (dC, dI) vwCl (mT ca) t ∧ va_D A (mG ad ca u.1 u.2)) A) ([.ref (ad 0), .int (iI p1), .int (iI p2), .int (iI p3)] : List Value).toArray s 0 0 A = Q
  suffices ST : ∀ (H : Heap) (locs : List Loc), va_P (dC, dI) vwCl (mG ad ca g a) H → va_S A s.heap H locs → W p l e ({ frames := 8, cells := 0, slots := 0, locals := 195 }) s m ([.ref (ad 0), .int (iI p1), .int (iI p2), .int (iI p3)] : List Value).toArray below meth c H locs 0 0 Q (F0 m 0 ls []) from ST _ _ hP hS
  clear hP hS
  intro H locs hP hS
  have b56_0 : 0 ≤ g 56 ∧ g 56 ≤ 300 := hI.1 56
  refine lv_aload_n hx hb dX13_line_0 rfl (lv_at hl 0 rfl) ?_
  refine lv_iload_n hx hb dX13_line_1 rfl (lv_at hl 1 rfl) ?_
  refine jc_i (va_runV (As := [.int (iI p1)]) (rest := []) ⟨hx, hb, hml, hown, hts⟩ (sX13_isArticle l dC dI _ ad ca g a p1 hI (by omega)) (cwV 1 hts (jgoodV m_266 m_373 m_374 m_503 m_152) rfl rfl rfl (by decide +kernel) ⟨(Nat.le_of_ble_eq_true rfl), (Nat.le_of_ble_eq_true rfl)⟩) ⟨jw_blind, va_recv hK hP (ci := 13) (q0 := 0) rfl rfl, fun U hU hW => ⟨rfl, jw_of hU hW hP hK hD⟩⟩ rfl rfl hl.1 rfl (lv_room (Nat.le_of_ble_eq_true rfl)) dX13_line_2 ⟨(Nat.le_of_ble_eq_true rfl), (Nat.le_of_ble_eq_true rfl)⟩) hP hS hA (fun r_1 H locs w_2 hP hS => ?_)
  obtain ⟨z_3, rfl, h_4, h_5⟩ := w_2
  have b_6 : 0 ≤ g 37 ∧ g 37 ≤ 60 := hI.1 37
  refine xr_if_eq (tgt := 79) hx hb dX13_line_5 (by decide) (by omega) (fun h_7 => ?_) (fun h_7 => ?_)
  · refine lv_iconst (v := iI (-1)) hx hb dX13_line_79 rfl ?_
    rw [← hQ]
    exact W.iret (v := iI (-1)) hx hb hr (fun t ht hW => ⟨⟨iI (-1), (g, a), rfl, ⟨(-1), rfl, hI, hfA, haA, by omega, by show rLine g a; first | exact rLine_t (by omega) rfl hrLine | exact rLine_new hrLine (by omega) rfl (by omega)⟩, by rw [ht]; exact hP, va_K.moved hW.alike hK, hD⟩, hS.F ht⟩) hS.2.2 dX13_line_80
  · refine lv_aload_n hx hb dX13_line_8 rfl (lv_at hl 0 rfl) ?_
    refine gf_givenTo hx hb hj hown hK hP dX13_line_9 ?_
    refine lv_iload_n hx hb dX13_line_12 rfl (lv_at hl 1 rfl) ?_
    refine ld_givenTo hx hb hK hP hI (by omega) (by omega) dX13_line_13 (fun h_8 => ?_)
    refine lv_iconst (v := iI (-1)) hx hb dX13_line_14 rfl ?_
    refine xr_icmp_eq (tgt := 79) hx hb dX13_line_15 (by decide) (by omega) (by omega) (fun h_9 => ?_) (fun h_9 => ?_)
    · refine lv_iconst (v := iI (-1)) hx hb dX13_line_79 rfl ?_
      rw [← hQ]
      exact W.iret (v := iI (-1)) hx hb hr (fun t ht hW => ⟨⟨iI (-1), (g, a), rfl, ⟨(-1), rfl, hI, hfA, haA, by omega, by show rLine g a; first | exact rLine_t (by omega) rfl hrLine | exact rLine_new hrLine (by omega) rfl (by omega)⟩, by rw [ht]; exact hP, va_K.moved hW.alike hK, hD⟩, hS.F ht⟩) hS.2.2 dX13_line_80
    · refine lv_aload_n hx hb dX13_line_18 rfl (lv_at hl 0 rfl) ?_
      refine gf_isDead hx hb hj hown hK hP dX13_line_19 ?_
      refine lv_aload_n hx hb dX13_line_22 rfl (lv_at hl 0 rfl) ?_
      refine gf_givenTo hx hb hj hown hK hP dX13_line_23 ?_
      refine lv_iload_n hx hb dX13_line_26 rfl (lv_at hl 1 rfl) ?_
      refine ld_givenTo hx hb hK hP hI (by omega) (by omega) dX13_line_27 (fun h_10 => ?_)
      refine ld_isDead hx hb hK hP hI (by omega) (by omega) dX13_line_28 (fun h_11 => ?_)
      refine xr_if_ne (tgt := 79) hx hb dX13_line_29 (by decide) (by omega) (fun h_12 => ?_) (fun h_12 => ?_)
      · refine lv_iconst (v := iI (-1)) hx hb dX13_line_79 rfl ?_
        rw [← hQ]
        exact W.iret (v := iI (-1)) hx hb hr (fun t ht hW => ⟨⟨iI (-1), (g, a), rfl, ⟨(-1), rfl, hI, hfA, haA, by omega, by show rLine g a; first | exact rLine_t (by omega) rfl hrLine | exact rLine_new hrLine (by omega) rfl (by omega)⟩, by rw [ht]; exact hP, va_K.moved hW.alike hK, hD⟩, hS.F ht⟩) hS.2.2 dX13_line_80
      · refine lv_aload_n hx hb dX13_line_32 rfl (lv_at hl 0 rfl) ?_
        refine gf_isStruck hx hb hj hown hK hP dX13_line_33 ?_
        refine lv_iload_n hx hb dX13_line_36 rfl (lv_at hl 1 rfl) ?_
        refine ld_isStruck hx hb hK hP hI (by omega) (by omega) dX13_line_37 (fun h_13 => ?_)
        refine xr_if_ne (tgt := 79) hx hb dX13_line_38 (by decide) (by omega) (fun h_14 => ?_) (fun h_14 => ?_)
        · refine lv_iconst (v := iI (-1)) hx hb dX13_line_79 rfl ?_
          rw [← hQ]
          exact W.iret (v := iI (-1)) hx hb hr (fun t ht hW => ⟨⟨iI (-1), (g, a), rfl, ⟨(-1), rfl, hI, hfA, haA, by omega, by show rLine g a; first | exact rLine_t (by omega) rfl hrLine | exact rLine_new hrLine (by omega) rfl (by omega)⟩, by rw [ht]; exact hP, va_K.moved hW.alike hK, hD⟩, hS.F ht⟩) hS.2.2 dX13_line_80
        · refine lv_aload_n hx hb dX13_line_41 rfl (lv_at hl 0 rfl) ?_
          refine lv_iload_n hx hb dX13_line_42 rfl (lv_at hl 1 rfl) ?_
          refine jc_i (va_runV (As := [.int (iI p1)]) (rest := []) ⟨hx, hb, hml, hown, hts⟩ (sX13_isDone l dC dI _ ad ca g a p1 hI (by omega) (by omega)) (cwV 1 hts (jgoodV m_263 m_376 m_377 m_503 m_154) rfl rfl rfl (by decide +kernel) ⟨(Nat.le_of_ble_eq_true rfl), (Nat.le_of_ble_eq_true rfl)⟩) ⟨jw_blind, va_recv hK hP (ci := 13) (q0 := 0) rfl rfl, fun U hU hW => ⟨rfl, jw_of hU hW hP hK hD⟩⟩ rfl rfl hl.1 rfl (lv_room (Nat.le_of_ble_eq_true rfl)) dX13_line_43 ⟨(Nat.le_of_ble_eq_true rfl), (Nat.le_of_ble_eq_true rfl)⟩) hP hS hA (fun r_15 H locs w_16 hP hS => ?_)
          obtain ⟨z_17, rfl, h_18⟩ := w_16
          refine xr_if_ne (tgt := 79) hx hb dX13_line_46 (by decide) (by omega) (fun h_19 => ?_) (fun h_19 => ?_)
          · refine lv_iconst (v := iI (-1)) hx hb dX13_line_79 rfl ?_
            rw [← hQ]
            exact W.iret (v := iI (-1)) hx hb hr (fun t ht hW => ⟨⟨iI (-1), (g, a), rfl, ⟨(-1), rfl, hI, hfA, haA, by omega, by show rLine g a; first | exact rLine_t (by omega) rfl hrLine | exact rLine_new hrLine (by omega) rfl (by omega)⟩, by rw [ht]; exact hP, va_K.moved hW.alike hK, hD⟩, hS.F ht⟩) hS.2.2 dX13_line_80
          · refine lv_aload_n hx hb dX13_line_49 rfl (lv_at hl 0 rfl) ?_
            refine lv_iload_n hx hb dX13_line_50 rfl (lv_at hl 1 rfl) ?_
            refine jcg_i (va_runV (As := [.int (iI p1)]) (rest := []) ⟨hx, hb, hml, hown, hts⟩ (sX13_volumeOf l dC dI _ ad ca g a p1 hI (by omega) (by omega) hrSh) (cwV 1 hts (jgoodV m_257 m_494 m_495 m_503 m_215) rfl rfl rfl (by decide +kernel) ⟨(Nat.le_of_ble_eq_true rfl), (Nat.le_of_ble_eq_true rfl)⟩) ⟨jw_blind, va_recv hK hP (ci := 13) (q0 := 0) rfl rfl, fun U hU hW => ⟨rfl, jw_of hU hW hP hK hD⟩⟩ rfl rfl hl.1 rfl (lv_room (Nat.le_of_ble_eq_true rfl)) dX13_line_51 ⟨(Nat.le_of_ble_eq_true rfl), (Nat.le_of_ble_eq_true rfl)⟩) hD hS hA (fun r_20 u_26 H locs w_21 hP hK hD hS => ?_)
            obtain ⟨g_24, a_25⟩ := u_26
            obtain ⟨z_22, rfl, e_28, hI, hfr_27, h_23⟩ := w_21
            have hP : va_P (dC, dI) vwCl (mG ad ca g_24 a_25) H := hP
            have hD : va_D A (mG ad ca g_24 a_25) := hD
            have e_28 : g = g_24 := e_28.symm
            subst e_28
            have haA : ∀ j, j ∉ ([42, 43, 44, 45, 46, 47, 48, 49, 62, 63, 64] : List Nat) → a_25 j = a j := fun j h => (hfr_27 j (fun q => h (by first | exact q | (simp only [List.mem_cons, List.not_mem_nil, or_false] at q ⊢ <;> omega)))).trans (haA j h)
            have b_29 : a_25 32 p1 = a 32 p1 := congrFun (haA 32 (by decide)) p1
            have t_30 : a_25 45 = a 45 := (hfr_27 45 (by decide)).trans rfl
            refine lv_bipush (v := iI 6) hx hb dX13_line_54 rfl ?_
            refine xr_icmp_eq (tgt := 79) hx hb dX13_line_56 (by decide) (by omega) (by omega) (fun h_31 => ?_) (fun h_31 => ?_)
            · refine lv_iconst (v := iI (-1)) hx hb dX13_line_79 rfl ?_
              rw [← hQ]
              exact W.iret (v := iI (-1)) hx hb hr (fun t ht hW => ⟨⟨iI (-1), (g, a_25), rfl, ⟨(-1), rfl, hI, hfA, haA, by omega, by show rLine g a_25; first | exact rLine_t (by omega) t_30 hrLine | exact rLine_new hrLine (by omega) t_30 (by omega)⟩, by rw [ht]; exact hP, va_K.moved hW.alike hK, hD⟩, hS.F ht⟩) hS.2.2 dX13_line_80
            · refine lv_iload_n hx hb dX13_line_59 rfl (lv_at hl 3 rfl) ?_
              refine lv_iconst (v := iI 0) hx hb dX13_line_60 rfl ?_
              refine lv_bipush (v := iI 30) hx hb dX13_line_61 rfl ?_
              refine jc_i (va_runS (As := [.int (iI p3), .int (iI 0), .int (iI 30)]) (rest := []) ⟨hx, hb, hml, hown, hts⟩ (sX13_in l dC dI _ p3 0 30 (by omega) (by omega) (by omega)) (va_cwS 3 hts (jgoodS m_220 m_364 m_503 m_147) rfl rfl rfl (by decide +kernel) ⟨(Nat.le_of_ble_eq_true rfl), (Nat.le_of_ble_eq_true rfl)⟩) ⟨jw_blind0, fun U hU hW => ⟨rfl, congrArg Array.size hU⟩⟩ rfl rfl hl.1 rfl (lv_room (Nat.le_of_ble_eq_true rfl)) dX13_line_63 ⟨(Nat.le_of_ble_eq_true rfl), (Nat.le_of_ble_eq_true rfl)⟩) hP hS hA (fun r_32 H locs w_33 hP hS => ?_)
              obtain ⟨z_34, rfl, h_35, h_36⟩ := w_33
              refine xr_if_eq (tgt := 79) hx hb dX13_line_66 (by decide) (by omega) (fun h_37 => ?_) (fun h_37 => ?_)
              · refine lv_iconst (v := iI (-1)) hx hb dX13_line_79 rfl ?_
                rw [← hQ]
                exact W.iret (v := iI (-1)) hx hb hr (fun t ht hW => ⟨⟨iI (-1), (g, a_25), rfl, ⟨(-1), rfl, hI, hfA, haA, by omega, by show rLine g a_25; first | exact rLine_t (by omega) t_30 hrLine | exact rLine_new hrLine (by omega) t_30 (by omega)⟩, by rw [ht]; exact hP, va_K.moved hW.alike hK, hD⟩, hS.F ht⟩) hS.2.2 dX13_line_80
              · refine lv_aload_n hx hb dX13_line_69 rfl (lv_at hl 0 rfl) ?_
                refine gf_lines hx hb hj hown hK hP hI dX13_line_70 (fun h_38 => ?_)
                refine lv_sipush (v := iI 300) hx hb dX13_line_73 rfl ?_
                refine xr_icmp_ne (tgt := 81) hx hb dX13_line_76 (by decide) (by omega) (by omega) (fun h_39 => ?_) (fun h_39 => ?_)
                · refine lv_iload_n hx hb dX13_line_81 rfl (lv_at hl 2 rfl) ?_
                  refine lv_iconst (v := iI 0) hx hb dX13_line_82 rfl ?_
                  refine lv_bipush (v := iI 39) hx hb dX13_line_83 rfl ?_
                  refine jc_i (va_runS (As := [.int (iI p2), .int (iI 0), .int (iI 39)]) (rest := []) ⟨hx, hb, hml, hown, hts⟩ (sX13_in l dC dI _ p2 0 39 (by omega) (by omega) (by omega)) (va_cwS 3 hts (jgoodS m_220 m_364 m_503 m_147) rfl rfl rfl (by decide +kernel) ⟨(Nat.le_of_ble_eq_true rfl), (Nat.le_of_ble_eq_true rfl)⟩) ⟨jw_blind0, fun U hU hW => ⟨rfl, congrArg Array.size hU⟩⟩ rfl rfl hl.1 rfl (lv_room (Nat.le_of_ble_eq_true rfl)) dX13_line_85 ⟨(Nat.le_of_ble_eq_true rfl), (Nat.le_of_ble_eq_true rfl)⟩) hP hS hA (fun r_40 H locs w_41 hP hS => ?_)
                  obtain ⟨z_42, rfl, h_43, h_44⟩ := w_41
                  have J109 : ∀ (s0_109 : Int) (H : Heap) (locs : List Loc) (ls : Array Slot), (0 ≤ s0_109 ∧ s0_109 ≤ 1) → (s0_109 = 0 ∨ (0 ≤ p2 ∧ p2 ≤ 39)) → va_P (dC, dI) vwCl (mG ad ca g a_25) H → va_D A (mG ad ca g a_25) → va_S A s.heap H locs → lv_has ls 7 [(0, .ref (ad 0)), (1, .int (iI p1)), (2, .int (iI p2)), (3, .int (iI p3))] → W p l e ({ frames := 8, cells := 0, slots := 0, locals := 195 }) s m ([.ref (ad 0), .int (iI p1), .int (iI p2), .int (iI p3)] : List Value).toArray below meth c H locs 0 0 Q (F0 m 109 ls [.int (iI s0_109)]) := by
                    intro s0_109 H locs ls h_45 h_46 hP hD hS hl
                    refine lv_istore (lv' := [(4, .int (iI s0_109)), (0, .ref (ad 0)), (1, .int (iI p1)), (2, .int (iI p2)), (3, .int (iI p3))]) hx hb dX13_line_109 hl (by decide) rfl (fun ls hl => ?_)
                    refine lv_iload_n hx hb dX13_line_111 rfl (lv_at hl 3 rfl) ?_
                    refine lv_bipush (v := iI 100) hx hb dX13_line_112 rfl ?_
                    refine lv_bipush (v := iI 99) hx hb dX13_line_114 rfl ?_
                    refine lv_aload_n hx hb dX13_line_116 rfl (lv_at hl 1 rfl) ?_
                    refine gf_lines hx hb hj hown hK hP hI dX13_line_117 (fun h_47 => ?_)
                    refine xr_add hx hb dX13_line_120 ?_
                    refine jc_i (va_runS (As := [.int (iI p2), .int (iI 100), .int (iI (99 + (g 56)))]) (rest := []) ⟨hx, hb, hml, hown, hts⟩ (sX13_in l dC dI _ p2 100 (99 + (g 56)) (by omega) (by omega) (by omega)) (va_cwS 3 hts (jgoodS m_220 m_364 m_503 m_147) rfl rfl rfl (by decide +kernel) ⟨(Nat.le_of_ble_eq_true rfl), (Nat.le_of_ble_eq_true rfl)⟩) ⟨jw_blind0, fun U hU hW => ⟨rfl, congrArg Array.size hU⟩⟩ rfl rfl hl.1 rfl (lv_room (Nat.le_of_ble_eq_true rfl)) dX13_line_121 ⟨(Nat.le_of_ble_eq_true rfl), (Nat.le_of_ble_eq_true rfl)⟩) hP hS hA (fun r_48 H locs w_49 hP hS => ?_)
                    obtain ⟨z_50, rfl, h_51, h_52⟩ := w_49
                    refine lv_istore (lv' := [(5, .int (iI z_50)), (4, .int (iI s0_109)), (0, .ref (ad 0)), (1, .int (iI p1)), (2, .int (iI p2)), (3, .int (iI p3))]) hx hb dX13_line_124 hl (by decide) rfl (fun ls hl => ?_)
                    refine lv_iload hx hb dX13_line_126 (lv_at hl 1 rfl) ?_
                    have J143 : ∀ (H : Heap) (locs : List Loc) (ls : Array Slot), (s0_109 = 0 ∨ (0 ≤ p2 ∧ p2 ≤ 39)) → (z_50 = 0 ∨ (100 ≤ p2 ∧ p2 ≤ 99 + g 56)) → va_P (dC, dI) vwCl (mG ad ca g a_25) H → va_D A (mG ad ca g a_25) → va_S A s.heap H locs → lv_has ls 7 [(5, .int (iI z_50)), (4, .int (iI s0_109)), (0, .ref (ad 0)), (1, .int (iI p1)), (2, .int (iI p2)), (3, .int (iI p3))] → W p l e ({ frames := 8, cells := 0, slots := 0, locals := 195 }) s m ([.ref (ad 0), .int (iI p1), .int (iI p2), .int (iI p3)] : List Value).toArray below meth c H locs 0 0 Q (F0 m 143 ls []) := by
                      intro H locs ls h_53 h_54 hP hD hS hl
                      refine lv_aload_n hx hb dX13_line_143 rfl (lv_at hl 2 rfl) ?_
                      refine lv_iload_n hx hb dX13_line_144 rfl (lv_at hl 3 rfl) ?_
                      refine lv_aload_n hx hb dX13_line_145 rfl (lv_at hl 2 rfl) ?_
                      refine gf_givenTo hx hb hj hown hK hP dX13_line_146 ?_
                      refine lv_iload_n hx hb dX13_line_149 rfl (lv_at hl 3 rfl) ?_
                      refine ld_givenTo hx hb hK hP hI (by omega) (by omega) dX13_line_150 (fun h_55 => ?_)
                      refine jcg_v (va_runV (As := [.int (iI p1), .int (iI (a_25 32 p1))]) (rest := []) ⟨hx, hb, hml, hown, hts⟩ (sX13_asks l dC dI _ ad ca g a_25 p1 (a_25 32 p1) hI (by omega) (by omega) (by omega) (by omega) (rSh_t rfl rfl (haA 9 (by decide)) (haA 10 (by decide)) (haA 11 (by decide)) (haA 12 (by decide)) (haA 16 (by decide)) hrSh)) (cwV 2 hts (jgoodV m_267 m_287 m_288 m_503 m_108) rfl rfl rfl (by decide +kernel) ⟨(Nat.le_of_ble_eq_true rfl), (Nat.le_of_ble_eq_true rfl)⟩) ⟨jw_blind, va_recv hK hP (ci := 13) (q0 := 0) rfl rfl, fun U hU hW => ⟨rfl, jw_of hU hW hP hK hD⟩⟩ rfl rfl hl.1 rfl (lv_room (Nat.le_of_ble_eq_true rfl)) dX13_line_151 ⟨(Nat.le_of_ble_eq_true rfl), (Nat.le_of_ble_eq_true rfl)⟩) hD hS hA (fun u_61 H locs w_57 hP hK hD hS => ?_)
                      obtain ⟨g_59, a_60⟩ := u_61
                      obtain ⟨e_63, hI, hfr_62⟩ := w_57
                      have hP : va_P (dC, dI) vwCl (mG ad ca g_59 a_60) H := hP
                      have hD : va_D A (mG ad ca g_59 a_60) := hD
                      have e_63 : g = g_59 := e_63.symm
                      subst e_63
                      have haA : ∀ j, j ∉ ([42, 43, 44, 45, 46, 47, 48, 49, 62, 63, 64] : List Nat) → a_60 j = a j := fun j h => (hfr_62 j (fun q => h (by first | exact q | (simp only [List.mem_cons, List.not_mem_nil, or_false] at q ⊢ <;> omega)))).trans (haA j h)
                      have b_64 : a_60 32 p1 = a 32 p1 := congrFun (haA 32 (by decide)) p1
                      have t_65 : a_60 45 = a 45 := (hfr_62 45 (by decide)).trans t_30
                      refine lv_aload_n hx hb dX13_line_154 rfl (lv_at hl 2 rfl) ?_
                      refine lv_bipush (v := iI 11) hx hb dX13_line_155 rfl ?_
                      refine lv_aload_n hx hb dX13_line_157 rfl (lv_at hl 2 rfl) ?_
                      refine gf_sort hx hb hj hown hK hP dX13_line_158 ?_
                      refine lv_iload_n hx hb dX13_line_161 rfl (lv_at hl 3 rfl) ?_
                      refine ld_sort hx hb hK hP hI (by omega) (by omega) dX13_line_162 (fun h_66 => ?_)
                      refine xr_add hx hb dX13_line_163 ?_
                      refine lv_aload_n hx hb dX13_line_164 rfl (lv_at hl 2 rfl) ?_
                      refine lv_iload_n hx hb dX13_line_165 rfl (lv_at hl 3 rfl) ?_
                      refine jcg_i (va_runV (As := [.int (iI p1)]) (rest := [.int (iI (11 + (a_60 28 p1))), .ref (ad 0)]) ⟨hx, hb, hml, hown, hts⟩ (sX13_volumeOf l dC dI _ ad ca g a_60 p1 hI (by omega) (by omega) (rSh_t rfl rfl (haA 9 (by decide)) (haA 10 (by decide)) (haA 11 (by decide)) (haA 12 (by decide)) (haA 16 (by decide)) hrSh)) (cwV 1 hts (jgoodV m_257 m_494 m_495 m_503 m_215) rfl rfl rfl (by decide +kernel) ⟨(Nat.le_of_ble_eq_true rfl), (Nat.le_of_ble_eq_true rfl)⟩) ⟨jw_blind, va_recv hK hP (ci := 13) (q0 := 0) rfl rfl, fun U hU hW => ⟨rfl, jw_of hU hW hP hK hD⟩⟩ rfl rfl hl.1 rfl (lv_room (Nat.le_of_ble_eq_true rfl)) dX13_line_166 ⟨(Nat.le_of_ble_eq_true rfl), (Nat.le_of_ble_eq_true rfl)⟩) hD hS hA (fun r_67 u_73 H locs w_68 hP hK hD hS => ?_)
                      obtain ⟨g_71, a_72⟩ := u_73
                      obtain ⟨z_69, rfl, e_75, hI, hfr_74, h_70⟩ := w_68
                      have hP : va_P (dC, dI) vwCl (mG ad ca g_71 a_72) H := hP
                      have hD : va_D A (mG ad ca g_71 a_72) := hD
                      have e_75 : g = g_71 := e_75.symm
                      subst e_75
                      have haA : ∀ j, j ∉ ([42, 43, 44, 45, 46, 47, 48, 49, 62, 63, 64] : List Nat) → a_72 j = a j := fun j h => (hfr_74 j (fun q => h (by first | exact q | (simp only [List.mem_cons, List.not_mem_nil, or_false] at q ⊢ <;> omega)))).trans (haA j h)
                      have b_76 : a_72 32 p1 = a 32 p1 := congrFun (haA 32 (by decide)) p1
                      have t_77 : a_72 45 = a 45 := (hfr_74 45 (by decide)).trans t_65
                      refine lv_aload_n hx hb dX13_line_169 rfl (lv_at hl 2 rfl) ?_
                      refine gf_now hx hb hj hown hK hP hI dX13_line_170 (fun h_78 => ?_)
                      refine jcg_i (va_runV (As := [.int (iI (11 + (a_60 28 p1))), .int (iI z_69), .int (iI (g 30))]) (rest := []) ⟨hx, hb, hml, hown, hts⟩ (sX13_tells l dC dI _ ad ca g a_72 (11 + (a_60 28 p1)) z_69 (g 30) hI (by omega) (by omega) (by omega) (by omega) (rSh_t rfl rfl (haA 9 (by decide)) (haA 10 (by decide)) (haA 11 (by decide)) (haA 12 (by decide)) (haA 16 (by decide)) hrSh)) (cwV 3 hts (jgoodV m_249 m_484 m_485 m_503 m_210) rfl rfl rfl (by decide +kernel) ⟨(Nat.le_of_ble_eq_true rfl), (Nat.le_of_ble_eq_true rfl)⟩) ⟨jw_blind, va_recv hK hP (ci := 13) (q0 := 0) rfl rfl, fun U hU hW => ⟨rfl, jw_of hU hW hP hK hD⟩⟩ rfl rfl hl.1 rfl (lv_room (Nat.le_of_ble_eq_true rfl)) dX13_line_173 ⟨(Nat.le_of_ble_eq_true rfl), (Nat.le_of_ble_eq_true rfl)⟩) hD hS hA (fun r_79 u_85 H locs w_80 hP hK hD hS => ?_)
                      obtain ⟨g_83, a_84⟩ := u_85
                      obtain ⟨z_81, rfl, e_87, hI, hfr_86, h_82⟩ := w_80
                      have hP : va_P (dC, dI) vwCl (mG ad ca g_83 a_84) H := hP
                      have hD : va_D A (mG ad ca g_83 a_84) := hD
                      have e_87 : g = g_83 := e_87.symm
                      subst e_87
                      have haA : ∀ j, j ∉ ([42, 43, 44, 45, 46, 47, 48, 49, 62, 63, 64] : List Nat) → a_84 j = a j := fun j h => (hfr_86 j (fun q => h (by first | exact q | (simp only [List.mem_cons, List.not_mem_nil, or_false] at q ⊢ <;> omega)))).trans (haA j h)
                      have b_88 : a_84 32 p1 = a 32 p1 := congrFun (haA 32 (by decide)) p1
                      have t_89 : a_84 45 = a 45 := (hfr_86 45 (by decide)).trans t_77
                      refine lv_istore (lv' := [(6, .int (iI z_81)), (5, .int (iI z_50)), (4, .int (iI s0_109)), (0, .ref (ad 0)), (1, .int (iI p1)), (2, .int (iI p2)), (3, .int (iI p3))]) hx hb dX13_line_176 hl (by decide) rfl (fun ls hl => ?_)
                      refine lv_aload_n hx hb dX13_line_178 rfl (lv_at hl 3 rfl) ?_
                      refine gf_lineOf hx hb hj hown hK hP dX13_line_179 ?_
                      refine lv_aload_n hx hb dX13_line_182 rfl (lv_at hl 3 rfl) ?_
                      refine gf_lines hx hb hj hown hK hP hI dX13_line_183 (fun h_90 => ?_)
                      refine lv_iload_n hx hb dX13_line_186 rfl (lv_at hl 4 rfl) ?_
                      refine st_lineOf hx hb hK hP hD hS hI (by omega) (by omega) (by omega) (by omega) dX13_line_187 (fun a_91 H locs e_92 e_93 hI hP hD hS => ?_)
                      have haA : ∀ j, j ∉ ([42, 43, 44, 45, 46, 47, 48, 49, 62, 63, 64] : List Nat) → a_91 j = a j := fun j h => (e_92 j (fun q => h (q ▸ (by decide : 42 ∈ ([42, 43, 44, 45, 46, 47, 48, 49, 62, 63, 64] : List Nat))))).trans (haA j h)
                      have b_94 : a_91 32 p1 = a 32 p1 := congrFun (haA 32 (by decide)) p1
                      have t_95 : a_91 45 = a 45 := (e_92 45 (by decide)).trans t_89
                      refine lv_aload_n hx hb dX13_line_188 rfl (lv_at hl 3 rfl) ?_
                      refine gf_lineHand hx hb hj hown hK hP dX13_line_189 ?_
                      refine lv_aload_n hx hb dX13_line_192 rfl (lv_at hl 3 rfl) ?_
                      refine gf_lines hx hb hj hown hK hP hI dX13_line_193 (fun h_96 => ?_)
                      refine lv_aload_n hx hb dX13_line_196 rfl (lv_at hl 3 rfl) ?_
                      refine gf_givenTo hx hb hj hown hK hP dX13_line_197 ?_
                      refine lv_iload_n hx hb dX13_line_200 rfl (lv_at hl 4 rfl) ?_
                      refine ld_givenTo hx hb hK hP hI (by omega) (by omega) dX13_line_201 (fun h_97 => ?_)
                      refine st_lineHand hx hb hK hP hD hS hI (by omega) (by omega) (by omega) (by omega) dX13_line_202 (fun a_98 H locs e_99 e_100 hI hP hD hS => ?_)
                      have haA : ∀ j, j ∉ ([42, 43, 44, 45, 46, 47, 48, 49, 62, 63, 64] : List Nat) → a_98 j = a j := fun j h => (e_99 j (fun q => h (q ▸ (by decide : 43 ∈ ([42, 43, 44, 45, 46, 47, 48, 49, 62, 63, 64] : List Nat))))).trans (haA j h)
                      have b_101 : a_98 32 p1 = a 32 p1 := congrFun (haA 32 (by decide)) p1
                      have t_102 : a_98 45 = a 45 := (e_99 45 (by decide)).trans t_95
                      refine lv_aload_n hx hb dX13_line_203 rfl (lv_at hl 3 rfl) ?_
                      refine gf_lineFact hx hb hj hown hK hP dX13_line_204 ?_
                      refine lv_aload_n hx hb dX13_line_207 rfl (lv_at hl 3 rfl) ?_
                      refine gf_lines hx hb hj hown hK hP hI dX13_line_208 (fun h_103 => ?_)
                      refine lv_iload hx hb dX13_line_211 (lv_at hl 2 rfl) ?_
                      have J221 : ∀ (s0_221 : Int) (H : Heap) (locs : List Loc) (ls : Array Slot), ((-2147483648) ≤ s0_221 ∧ s0_221 ≤ 2147483647) → (-1 ≤ s0_221 ∧ s0_221 ≤ 39) → va_P (dC, dI) vwCl (mG ad ca g a_98) H → va_D A (mG ad ca g a_98) → va_S A s.heap H locs → lv_has ls 7 [(6, .int (iI z_81)), (5, .int (iI z_50)), (4, .int (iI s0_109)), (0, .ref (ad 0)), (1, .int (iI p1)), (2, .int (iI p2)), (3, .int (iI p3))] → W p l e ({ frames := 8, cells := 0, slots := 0, locals := 195 }) s m ([.ref (ad 0), .int (iI p1), .int (iI p2), .int (iI p3)] : List Value).toArray below meth c H locs 0 0 Q (F0 m 221 ls [.int (iI s0_221), .int (iI (g 56)), .ref (ad 44)]) := by
                        intro s0_221 H locs ls h_104 h_105 hP hD hS hl
                        refine st_lineFact hx hb hK hP hD hS hI (by omega) (by omega) (by omega) (by omega) dX13_line_221 (fun a_106 H locs e_107 e_108 hI hP hD hS => ?_)
                        have haA : ∀ j, j ∉ ([42, 43, 44, 45, 46, 47, 48, 49, 62, 63, 64] : List Nat) → a_106 j = a j := fun j h => (e_107 j (fun q => h (q ▸ (by decide : 44 ∈ ([42, 43, 44, 45, 46, 47, 48, 49, 62, 63, 64] : List Nat))))).trans (haA j h)
                        have b_109 : a_106 32 p1 = a 32 p1 := congrFun (haA 32 (by decide)) p1
                        have t_110 : a_106 45 = a 45 := (e_107 45 (by decide)).trans t_102
                        refine lv_aload_n hx hb dX13_line_222 rfl (lv_at hl 3 rfl) ?_
                        refine gf_lineOn hx hb hj hown hK hP dX13_line_223 ?_
                        refine lv_aload_n hx hb dX13_line_226 rfl (lv_at hl 3 rfl) ?_
                        refine gf_lines hx hb hj hown hK hP hI dX13_line_227 (fun h_111 => ?_)
                        refine lv_iload hx hb dX13_line_230 (lv_at hl 1 rfl) ?_
                        have J243 : ∀ (s0_243 : Int) (H : Heap) (locs : List Loc) (ls : Array Slot), ((-2147483648) ≤ s0_243 ∧ s0_243 ≤ 2147483647) → (-1 ≤ s0_243 ∧ s0_243 ≤ 299 ∧ s0_243 < g 56) → va_P (dC, dI) vwCl (mG ad ca g a_106) H → va_D A (mG ad ca g a_106) → va_S A s.heap H locs → lv_has ls 7 [(6, .int (iI z_81)), (5, .int (iI z_50)), (4, .int (iI s0_109)), (0, .ref (ad 0)), (1, .int (iI p1)), (2, .int (iI p2)), (3, .int (iI p3))] → W p l e ({ frames := 8, cells := 0, slots := 0, locals := 195 }) s m ([.ref (ad 0), .int (iI p1), .int (iI p2), .int (iI p3)] : List Value).toArray below meth c H locs 0 0 Q (F0 m 243 ls [.int (iI s0_243), .int (iI (g 56)), .ref (ad 45)]) := by
                          intro s0_243 H locs ls h_112 h_113 hP hD hS hl
                          refine st_lineOn hx hb hK hP hD hS hI (by omega) (by omega) (by omega) (by omega) dX13_line_243 (fun a_114 H locs e_115 e_116 hI hP hD hS => ?_)
                          have haA : ∀ j, j ∉ ([42, 43, 44, 45, 46, 47, 48, 49, 62, 63, 64] : List Nat) → a_114 j = a j := fun j h => (e_115 j (fun q => h (q ▸ (by decide : 45 ∈ ([42, 43, 44, 45, 46, 47, 48, 49, 62, 63, 64] : List Nat))))).trans (haA j h)
                          have b_117 : a_114 32 p1 = a 32 p1 := congrFun (haA 32 (by decide)) p1
                          have t_118 : a_114 45 = up (a 45) (g 56) s0_243 := e_116.trans (up_c t_110 (by omega) (by omega))
                          refine lv_aload_n hx hb dX13_line_244 rfl (lv_at hl 3 rfl) ?_
                          refine gf_lineKeeps hx hb hj hown hK hP dX13_line_245 ?_
                          refine lv_aload_n hx hb dX13_line_248 rfl (lv_at hl 3 rfl) ?_
                          refine gf_lines hx hb hj hown hK hP hI dX13_line_249 (fun h_119 => ?_)
                          refine lv_iload hx hb dX13_line_252 (lv_at hl 2 rfl) ?_
                          have J270 : ∀ (s0_270 : Int) (H : Heap) (locs : List Loc) (ls : Array Slot), ((-2147483648) ≤ s0_270 ∧ s0_270 ≤ 2147483647) → va_P (dC, dI) vwCl (mG ad ca g a_114) H → va_D A (mG ad ca g a_114) → va_S A s.heap H locs → lv_has ls 7 [(6, .int (iI z_81)), (5, .int (iI z_50)), (4, .int (iI s0_109)), (0, .ref (ad 0)), (1, .int (iI p1)), (2, .int (iI p2)), (3, .int (iI p3))] → W p l e ({ frames := 8, cells := 0, slots := 0, locals := 195 }) s m ([.ref (ad 0), .int (iI p1), .int (iI p2), .int (iI p3)] : List Value).toArray below meth c H locs 0 0 Q (F0 m 270 ls [.int (iI s0_270), .int (iI (g 56)), .ref (ad 46)]) := by
                            intro s0_270 H locs ls h_120 hP hD hS hl
                            refine sa_lineKeeps hx hb hK hP hD hS hI (by omega) (by omega) dX13_line_270 (fun a_121 z_124 H locs h_125 h_126 e_122 e_123 hI hP hD hS => ?_)
                            have haA : ∀ j, j ∉ ([42, 43, 44, 45, 46, 47, 48, 49, 62, 63, 64] : List Nat) → a_121 j = a j := fun j h => (e_122 j (fun q => h (q ▸ (by decide : 46 ∈ ([42, 43, 44, 45, 46, 47, 48, 49, 62, 63, 64] : List Nat))))).trans (haA j h)
                            have b_127 : a_121 32 p1 = a 32 p1 := congrFun (haA 32 (by decide)) p1
                            have t_128 : a_121 45 = up (a 45) (g 56) s0_243 := (e_122 45 (by decide)).trans t_118
                            refine lv_aload_n hx hb dX13_line_271 rfl (lv_at hl 3 rfl) ?_
                            refine gf_lineTerm hx hb hj hown hK hP dX13_line_272 ?_
                            refine lv_aload_n hx hb dX13_line_275 rfl (lv_at hl 3 rfl) ?_
                            refine gf_lines hx hb hj hown hK hP hI dX13_line_276 (fun h_129 => ?_)
                            refine lv_iload_n hx hb dX13_line_279 rfl (lv_at hl 6 rfl) ?_
                            refine sa_lineTerm hx hb hK hP hD hS hI (by omega) (by omega) dX13_line_280 (fun a_130 z_133 H locs h_134 h_135 e_131 e_132 hI hP hD hS => ?_)
                            have haA : ∀ j, j ∉ ([42, 43, 44, 45, 46, 47, 48, 49, 62, 63, 64] : List Nat) → a_130 j = a j := fun j h => (e_131 j (fun q => h (q ▸ (by decide : 47 ∈ ([42, 43, 44, 45, 46, 47, 48, 49, 62, 63, 64] : List Nat))))).trans (haA j h)
                            have b_136 : a_130 32 p1 = a 32 p1 := congrFun (haA 32 (by decide)) p1
                            have t_137 : a_130 45 = up (a 45) (g 56) s0_243 := (e_131 45 (by decide)).trans t_128
                            refine lv_aload_n hx hb dX13_line_281 rfl (lv_at hl 3 rfl) ?_
                            refine gf_linePay hx hb hj hown hK hP dX13_line_282 ?_
                            refine lv_aload_n hx hb dX13_line_285 rfl (lv_at hl 3 rfl) ?_
                            refine gf_lines hx hb hj hown hK hP hI dX13_line_286 (fun h_138 => ?_)
                            refine lv_iload hx hb dX13_line_289 (lv_at hl 0 rfl) ?_
                            have J300 : ∀ (s0_300 : Int) (H : Heap) (locs : List Loc) (ls : Array Slot), (0 ≤ s0_300 ∧ s0_300 ≤ 2147483647) → va_P (dC, dI) vwCl (mG ad ca g a_130) H → va_D A (mG ad ca g a_130) → va_S A s.heap H locs → lv_has ls 7 [(6, .int (iI z_81)), (5, .int (iI z_50)), (4, .int (iI s0_109)), (0, .ref (ad 0)), (1, .int (iI p1)), (2, .int (iI p2)), (3, .int (iI p3))] → W p l e ({ frames := 8, cells := 0, slots := 0, locals := 195 }) s m ([.ref (ad 0), .int (iI p1), .int (iI p2), .int (iI p3)] : List Value).toArray below meth c H locs 0 0 Q (F0 m 300 ls [.int (iI s0_300), .int (iI (g 56)), .ref (ad 48)]) := by
                              intro s0_300 H locs ls h_139 hP hD hS hl
                              refine sa_linePay hx hb hK hP hD hS hI (by omega) (by omega) dX13_line_300 (fun a_140 z_143 H locs h_144 h_145 e_141 e_142 hI hP hD hS => ?_)
                              have haA : ∀ j, j ∉ ([42, 43, 44, 45, 46, 47, 48, 49, 62, 63, 64] : List Nat) → a_140 j = a j := fun j h => (e_141 j (fun q => h (q ▸ (by decide : 48 ∈ ([42, 43, 44, 45, 46, 47, 48, 49, 62, 63, 64] : List Nat))))).trans (haA j h)
                              have b_146 : a_140 32 p1 = a 32 p1 := congrFun (haA 32 (by decide)) p1
                              have t_147 : a_140 45 = up (a 45) (g 56) s0_243 := (e_141 45 (by decide)).trans t_137
                              refine lv_aload_n hx hb dX13_line_301 rfl (lv_at hl 3 rfl) ?_
                              refine gf_linePage hx hb hj hown hK hP dX13_line_302 ?_
                              refine lv_aload_n hx hb dX13_line_305 rfl (lv_at hl 3 rfl) ?_
                              refine gf_lines hx hb hj hown hK hP hI dX13_line_306 (fun h_148 => ?_)
                              refine lv_iconst (v := iI (-1)) hx hb dX13_line_309 rfl ?_
                              refine sa_linePage hx hb hK hP hD hS hI (by omega) (by omega) dX13_line_310 (fun a_149 z_152 H locs h_153 h_154 e_150 e_151 hI hP hD hS => ?_)
                              have haA : ∀ j, j ∉ ([42, 43, 44, 45, 46, 47, 48, 49, 62, 63, 64] : List Nat) → a_149 j = a j := fun j h => (e_150 j (fun q => h (q ▸ (by decide : 49 ∈ ([42, 43, 44, 45, 46, 47, 48, 49, 62, 63, 64] : List Nat))))).trans (haA j h)
                              have b_155 : a_149 32 p1 = a 32 p1 := congrFun (haA 32 (by decide)) p1
                              have t_156 : a_149 45 = up (a 45) (g 56) s0_243 := (e_150 45 (by decide)).trans t_147
                              refine lv_aload_n hx hb dX13_line_311 rfl (lv_at hl 3 rfl) ?_
                              refine lv_dup hx hb dX13_line_312 rfl ?_
                              refine gf_lines hx hb hj hown hK hP hI dX13_line_313 (fun h_157 => ?_)
                              refine lv_iconst (v := iI 1) hx hb dX13_line_316 rfl ?_
                              refine xr_add hx hb dX13_line_317 ?_
                              refine pf_lines hx hb hj hown hK hP hD hS hI (by omega) (by omega) dX13_line_318 (fun g_158 H locs e_159 e_160 hI hP hD hS => ?_)
                              have hfA : ∀ j, j ∉ ([56] : List Nat) → g_158 j = g j := fun j h => (e_159 j (fun q => h (q ▸ (by decide : 56 ∈ ([56] : List Nat))))).trans (hfA j h)
                              have b_161 : g_158 30 = g 30 := hfA 30 (by decide)
                              refine lv_aload_n hx hb dX13_line_321 rfl (lv_at hl 3 rfl) ?_
                              refine gf_lines hx hb hj hown hK hP hI dX13_line_322 (fun h_162 => ?_)
                              refine lv_iconst (v := iI 1) hx hb dX13_line_325 rfl ?_
                              refine xr_sub hx hb dX13_line_326 ?_
                              rw [← hQ]
                              exact W.iret (v := iI ((g_158 56) - 1)) hx hb hr (fun t ht hW => ⟨⟨iI ((g_158 56) - 1), (g_158, a_149), rfl, ⟨(g_158 56) - 1, rfl, hI, hfA, haA, by omega, by show rLine g_158 a_149; first | exact rLine_t (by omega) t_156 hrLine | exact rLine_new hrLine (by omega) t_156 (by omega)⟩, by rw [ht]; exact hP, va_K.moved hW.alike hK, hD⟩, hS.F ht⟩) hS.2.2 dX13_line_327
                            refine xr_if_ge (tgt := 298) hx hb dX13_line_291 (by decide) (by omega) (fun h_163 => ?_) (fun h_163 => ?_)
                            · refine lv_iload hx hb dX13_line_298 (lv_at hl 0 rfl) ?_
                              exact J300 z_81 H locs ls (by omega) hP hD hS hl
                            · refine lv_iconst (v := iI 0) hx hb dX13_line_294 rfl ?_
                              refine lv_goto (tgt := 300) hx hb dX13_line_295 (by decide) ?_
                              exact J300 0 H locs ls (by omega) hP hD hS hl
                          refine xr_if_eq (tgt := 269) hx hb dX13_line_254 (by decide) (by omega) (fun h_164 => ?_) (fun h_164 => ?_)
                          · refine lv_iconst (v := iI (-1)) hx hb dX13_line_269 rfl ?_
                            exact J270 (-1) H locs ls (by omega) hP hD hS hl
                          · refine lv_aload_n hx hb dX13_line_257 rfl (lv_at hl 3 rfl) ?_
                            refine lv_iload_n hx hb dX13_line_258 rfl (lv_at hl 5 rfl) ?_
                            refine lv_aload_n hx hb dX13_line_259 rfl (lv_at hl 3 rfl) ?_
                            refine gf_now hx hb hj hown hK hP hI dX13_line_260 (fun h_165 => ?_)
                            refine jc_i (va_runV (As := [.int (iI p2), .int (iI (g 30))]) (rest := [.int (iI (g 56)), .ref (ad 46)]) ⟨hx, hb, hml, hown, hts⟩ (sX13_valueOf l dC dI _ ad ca g a_114 p2 (g 30) hI (by omega) (by omega)) (cwV 2 hts (jgoodV m_270 m_490 m_491 m_503 m_213) rfl rfl rfl (by decide +kernel) ⟨(Nat.le_of_ble_eq_true rfl), (Nat.le_of_ble_eq_true rfl)⟩) ⟨jw_blind, va_recv hK hP (ci := 13) (q0 := 0) rfl rfl, fun U hU hW => ⟨rfl, jw_of hU hW hP hK hD⟩⟩ rfl rfl hl.1 rfl (lv_room (Nat.le_of_ble_eq_true rfl)) dX13_line_263 ⟨(Nat.le_of_ble_eq_true rfl), (Nat.le_of_ble_eq_true rfl)⟩) hP hS hA (fun r_166 H locs w_167 hP hS => ?_)
                            obtain ⟨z_168, rfl, h_169⟩ := w_167
                            refine lv_goto (tgt := 270) hx hb dX13_line_266 (by decide) ?_
                            exact J270 z_168 H locs ls (by omega) hP hD hS hl
                        refine xr_if_eq (tgt := 242) hx hb dX13_line_232 (by decide) (by omega) (fun h_170 => ?_) (fun h_170 => ?_)
                        · refine lv_iconst (v := iI (-1)) hx hb dX13_line_242 rfl ?_
                          exact J243 (-1) H locs ls (by omega) (by omega) hP hD hS hl
                        · refine lv_iload_n hx hb dX13_line_235 rfl (lv_at hl 5 rfl) ?_
                          refine lv_bipush (v := iI 100) hx hb dX13_line_236 rfl ?_
                          refine xr_sub hx hb dX13_line_238 ?_
                          refine xr_kept (fun z_171 h_172 h_173 => ?_)
                          refine lv_goto (tgt := 243) hx hb dX13_line_239 (by decide) ?_
                          exact J243 z_171 H locs ls (by omega) (by omega) hP hD hS hl
                      refine xr_if_eq (tgt := 220) hx hb dX13_line_213 (by decide) (by omega) (fun h_174 => ?_) (fun h_174 => ?_)
                      · refine lv_iconst (v := iI (-1)) hx hb dX13_line_220 rfl ?_
                        exact J221 (-1) H locs ls (by omega) (by omega) hP hD hS hl
                      · refine lv_iload_n hx hb dX13_line_216 rfl (lv_at hl 5 rfl) ?_
                        refine lv_goto (tgt := 221) hx hb dX13_line_217 (by decide) ?_
                        exact J221 p2 H locs ls (by omega) (by omega) hP hD hS hl
                    refine xr_if_ne (tgt := 143) hx hb dX13_line_128 (by decide) (by omega) (fun h_175 => ?_) (fun h_175 => ?_)
                    · exact J143 H locs ls (by omega) (by omega) hP hD hS hl
                    · refine lv_iload hx hb dX13_line_131 (lv_at hl 0 rfl) ?_
                      refine xr_if_ne (tgt := 143) hx hb dX13_line_133 (by decide) (by omega) (fun h_176 => ?_) (fun h_176 => ?_)
                      · exact J143 H locs ls (by omega) (by omega) hP hD hS hl
                      · refine lv_iload_n hx hb dX13_line_136 rfl (lv_at hl 4 rfl) ?_
                        refine lv_iconst (v := iI (-1)) hx hb dX13_line_137 rfl ?_
                        refine xr_icmp_eq (tgt := 143) hx hb dX13_line_138 (by decide) (by omega) (by omega) (fun h_177 => ?_) (fun h_177 => ?_)
                        · exact J143 H locs ls (by omega) (by omega) hP hD hS hl
                        · refine lv_iconst (v := iI (-1)) hx hb dX13_line_141 rfl ?_
                          rw [← hQ]
                          exact W.iret (v := iI (-1)) hx hb hr (fun t ht hW => ⟨⟨iI (-1), (g, a_25), rfl, ⟨(-1), rfl, hI, hfA, haA, by omega, by show rLine g a_25; first | exact rLine_t (by omega) t_30 hrLine | exact rLine_new hrLine (by omega) t_30 (by omega)⟩, by rw [ht]; exact hP, va_K.moved hW.alike hK, hD⟩, hS.F ht⟩) hS.2.2 dX13_line_142
                  have J108 : ∀ (H : Heap) (locs : List Loc) (ls : Array Slot), va_P (dC, dI) vwCl (mG ad ca g a_25) H → va_D A (mG ad ca g a_25) → va_S A s.heap H locs → lv_has ls 7 [(0, .ref (ad 0)), (1, .int (iI p1)), (2, .int (iI p2)), (3, .int (iI p3))] → W p l e ({ frames := 8, cells := 0, slots := 0, locals := 195 }) s m ([.ref (ad 0), .int (iI p1), .int (iI p2), .int (iI p3)] : List Value).toArray below meth c H locs 0 0 Q (F0 m 108 ls []) := by
                    intro H locs ls hP hD hS hl
                    refine lv_iconst (v := iI 0) hx hb dX13_line_108 rfl ?_
                    exact J109 0 H locs ls (by omega) (by omega) hP hD hS hl
                  refine xr_if_eq (tgt := 108) hx hb dX13_line_88 (by decide) (by omega) (fun h_178 => ?_) (fun h_178 => ?_)
                  · exact J108 H locs ls hP hD hS hl
                  · refine lv_aload_n hx hb dX13_line_91 rfl (lv_at hl 0 rfl) ?_
                    refine lv_iload_n hx hb dX13_line_92 rfl (lv_at hl 2 rfl) ?_
                    refine lv_aload_n hx hb dX13_line_93 rfl (lv_at hl 0 rfl) ?_
                    refine gf_now hx hb hj hown hK hP hI dX13_line_94 (fun h_179 => ?_)
                    refine jc_i (va_runV (As := [.int (iI p2), .int (iI (g 30))]) (rest := []) ⟨hx, hb, hml, hown, hts⟩ (sX13_valueOf l dC dI _ ad ca g a_25 p2 (g 30) hI (by omega) (by omega)) (cwV 2 hts (jgoodV m_270 m_490 m_491 m_503 m_213) rfl rfl rfl (by decide +kernel) ⟨(Nat.le_of_ble_eq_true rfl), (Nat.le_of_ble_eq_true rfl)⟩) ⟨jw_blind, va_recv hK hP (ci := 13) (q0 := 0) rfl rfl, fun U hU hW => ⟨rfl, jw_of hU hW hP hK hD⟩⟩ rfl rfl hl.1 rfl (lv_room (Nat.le_of_ble_eq_true rfl)) dX13_line_97 ⟨(Nat.le_of_ble_eq_true rfl), (Nat.le_of_ble_eq_true rfl)⟩) hP hS hA (fun r_180 H locs w_181 hP hS => ?_)
                    obtain ⟨z_182, rfl, h_183⟩ := w_181
                    refine lv_iconst (v := iI (-1)) hx hb dX13_line_100 rfl ?_
                    refine xr_icmp_eq (tgt := 108) hx hb dX13_line_101 (by decide) (by omega) (by omega) (fun h_184 => ?_) (fun h_184 => ?_)
                    · exact J108 H locs ls hP hD hS hl
                    · refine lv_iconst (v := iI 1) hx hb dX13_line_104 rfl ?_
                      refine lv_goto (tgt := 109) hx hb dX13_line_105 (by decide) ?_
                      exact J109 1 H locs ls (by omega) (by omega) hP hD hS hl
                · refine lv_iconst (v := iI (-1)) hx hb dX13_line_79 rfl ?_
                  rw [← hQ]
                  exact W.iret (v := iI (-1)) hx hb hr (fun t ht hW => ⟨⟨iI (-1), (g, a_25), rfl, ⟨(-1), rfl, hI, hfA, haA, by omega, by show rLine g a_25; first | exact rLine_t (by omega) t_30 hrLine | exact rLine_new hrLine (by omega) t_30 (by omega)⟩, by rw [ht]; exact hP, va_K.moved hW.alike hK, hD⟩, hS.F ht⟩) hS.2.2 dX13_line_80
