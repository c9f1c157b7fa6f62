set_option maxHeartbeats 2000000 in
set_option maxRecDepth 100000 in
theorem sX13_misses (l : Launch) (dC : Nat → ClassId) (dI : Nat → Nat → Nat) (sz : Nat) (ad : Nat → Nat) (ca : Nat → ClassId) (g : Nat → Int) (a : Nat → Int → Int) (p1 : Int) (hI : mI g a) (q1 : rg p1) : Met l yX13_misses (jk yX13_misses cX13_misses 2 (some .int)) ({ frames := 1, cells := 0, slots := 0, locals := 25 }) (va_Pc [.ref (ad 0), .int (iI p1)] (jw_P (dC, dI) (mG ad ca g a) (mT ca) sz)) (va_Qi (fun (r : Int32) (u : (Nat → Int) × (Nat → Int → Int)) => ∃ z : Int, r = iI z ∧ (mI u.1 u.2) ∧ (∀ j, j ∉ ([86] : List Nat) → u.1 j = g j) ∧ (∀ j, j ∉ ([] : List Nat) → u.2 j = a j) ∧ (rg z)) (fun u t => va_P (dC, dI) vwCl (mG ad ca u.1 u.2) t.heap ∧ va_K (dC, dI) vwCl (mT ca) t ∧ va_D (va_A (mG ad ca g a) sz) (mG ad ca u.1 u.2)) (va_A (mG ad ca g a) sz)) 0 0 (va_A (mG ad ca g a) sz) := by
  refine Met.ofW (cc := cX13_misses) (maxL := 2) (ret := (some .int)) (by decide) rfl ?_
  intro p e s m args below meth c s₁ B hml hv
  obtain ⟨rfl, hsz, hP, hK, hD0⟩ := hv
  have hx := B.exec
  have hb := B.bytes
  have hr := B.returns
  have hts := atoms_spec (ws := (jk yX13_misses cX13_misses 2 (some .int))) B.pre
  have hj : ∀ w ∈ jw, w.before ([.ref (ad 0), .int (iI p1)] : List Value).toArray s = true := fun w h => hts w (jm h)
  have hown : s.vm.findClass RX13 = some m.cls := findClass_of_methodNamed B.named
  subst hsz
  have hD := hD0.self (sz := s.heap.size)
  generalize hAe : (va_A (mG ad ca g a) s.heap.size) = A at hD ⊢
  have hA : ∀ q : Nat, s.heap.size ≤ q → A q := fun q h => by rw [← hAe]; exact Or.inr h
  have hS : va_S A s.heap s.heap [] := va_S.rf
  have hP : va_P (dC, dI) vwCl (mG ad ca g a) s.heap := hP
  have hfA : ∀ j, j ∉ ([86] : List Nat) → g j = g j := fun _ _ => rfl
  have haA : ∀ j, j ∉ ([] : List Nat) → a j = a j := fun _ _ => rfl
  have hl := lv_entry ([.ref (ad 0), .int (iI p1)]) (n := 2) (Nat.le_of_ble_eq_true rfl)
  rw [lg_entry_eq]
  generalize (lg_sl ([.ref (ad 0), .int (iI p1)]) ++ List.replicate (2 - (lg_sl ([.ref (ad 0), .int (iI p1)])).length) Slot.unset).toArray = ls at hl ⊢
  have hl : lv_has ls 2 [(0, .ref (ad 0)), (1, .int (iI p1))] := hl
  generalize hQ : MQ below (va_Qi (fun (r : Int32) (u : (Nat → Int) × (Nat → Int → Int)) => ∃ z : Int, r = iI z ∧ (mI u.1 u.2) ∧ (∀ j, j ∉ ([86] : List Nat) → u.1 j = g j) ∧ (∀ j, j ∉ ([] : List Nat) → u.2 j = a j) ∧ (rg z)) (fun u t => va_P (dC, dI) vwCl (mG ad ca u.1 u.2) t.heap ∧ va_K (dC, dI) vwCl (mT ca) t ∧ va_D A (mG ad ca u.1 u.2)) A) ([.ref (ad 0), .int (iI p1)] : List Value).toArray s 0 0 A = Q
  suffices ST : ∀ (H : Heap) (locs : List Loc), va_P (dC, dI) vwCl (mG ad ca g a) H → va_S A s.heap H locs → W p l e ({ frames := 1, cells := 0, slots := 0, locals := 25 }) s m ([.ref (ad 0), .int (iI p1)] : List Value).toArray below meth c H locs 0 0 Q (F0 m 0 ls []) from ST _ _ hP hS
  clear hP hS
  intro H locs hP hS
  refine lv_iload_n hx hb dX13_misses_0 rfl (lv_at hl 1 rfl) ?_
  refine lv_iconst (v := iI 0) hx hb dX13_misses_1 rfl ?_
  refine lv_aload_n hx hb dX13_misses_2 rfl (lv_at hl 0 rfl) ?_
  refine gf_errata hx hb hj hown hK hP hI dX13_misses_3 (fun h_1 => ?_)
  refine lv_iconst (v := iI 1) hx hb dX13_misses_6 rfl ?_
  refine xr_sub hx hb dX13_misses_7 ?_
  refine jc_i (va_runS (As := [.int (iI p1), .int (iI 0), .int (iI ((g 71) - 1))]) (rest := []) ⟨hx, hb, hml, hown, hts⟩ (sX13_in l dC dI _ p1 0 ((g 71) - 1) (by omega) (by omega) (by omega)) (va_cwS 3 hts (jgoodS m_220 m_364 m_503 m_147) rfl rfl rfl (by decide +kernel) ⟨(Nat.le_of_ble_eq_true rfl), (Nat.le_of_ble_eq_true rfl)⟩) ⟨jw_blind0, fun U hU hW => ⟨rfl, congrArg Array.size hU⟩⟩ rfl rfl hl.1 rfl (lv_room (Nat.le_of_ble_eq_true rfl)) dX13_misses_8 ⟨(Nat.le_of_ble_eq_true rfl), (Nat.le_of_ble_eq_true rfl)⟩) hP hS hA (fun r_2 H locs w_3 hP hS => ?_)
  obtain ⟨z_4, rfl, h_5, h_6⟩ := w_3
  refine xr_if_ne (tgt := 16) hx hb dX13_misses_11 (by decide) (by omega) (fun h_7 => ?_) (fun h_7 => ?_)
  · refine lv_aload_n hx hb dX13_misses_16 rfl (lv_at hl 0 rfl) ?_
    refine lv_aload_n hx hb dX13_misses_17 rfl (lv_at hl 0 rfl) ?_
    refine gf_errorLine hx hb hj hown hK hP dX13_misses_18 ?_
    refine lv_iload_n hx hb dX13_misses_21 rfl (lv_at hl 1 rfl) ?_
    refine ld_errorLine hx hb hK hP hI (by omega) (by omega) dX13_misses_22 (fun h_8 => ?_)
    refine lv_sipush (v := iI 2000) hx hb dX13_misses_23 rfl ?_
    refine lv_iload_n hx hb dX13_misses_26 rfl (lv_at hl 1 rfl) ?_
    refine jcg_i (va_runV (As := [.int (iI (a 55 p1)), .int (iI 2000), .int (iI p1)]) (rest := []) ⟨hx, hb, hml, hown, hts⟩ (sX13_keeps l dC dI _ ad ca g a (a 55 p1) 2000 p1 hI (by omega) (by omega) (by omega) (by omega)) (cwV 3 hts (jgoodV m_272 m_398 m_399 m_503 m_166) rfl rfl rfl (by decide +kernel) ⟨(Nat.le_of_ble_eq_true rfl), (Nat.le_of_ble_eq_true rfl)⟩) ⟨jw_blind, va_recv hK hP (ci := 13) (q0 := 0) rfl rfl, fun U hU hW => ⟨rfl, jw_of hU hW hP hK hD⟩⟩ rfl rfl hl.1 rfl (lv_room (Nat.le_of_ble_eq_true rfl)) dX13_misses_27 ⟨(Nat.le_of_ble_eq_true rfl), (Nat.le_of_ble_eq_true rfl)⟩) hD hS hA (fun r_9 u_15 H locs w_10 hP hK hD hS => ?_)
    obtain ⟨g_13, a_14⟩ := u_15
    obtain ⟨z_11, rfl, hI, hfr_16, hfr_17, h_12⟩ := w_10
    have hP : va_P (dC, dI) vwCl (mG ad ca g_13 a_14) H := hP
    have hD : va_D A (mG ad ca g_13 a_14) := hD
    have hfA : ∀ j, j ∉ ([86] : List Nat) → g_13 j = g j := fun j h => (hfr_16 j (fun q => h (by first | exact q | (simp only [List.mem_cons, List.not_mem_nil, or_false] at q ⊢ <;> omega)))).trans (hfA j h)
    have b_19 : g_13 71 = g 71 := hfA 71 (by decide)
    have haA : ∀ j, j ∉ ([] : List Nat) → a_14 j = a j := fun j h => (hfr_17 j (fun q => h (by first | exact q | (simp only [List.mem_cons, List.not_mem_nil, or_false] at q ⊢ <;> omega)))).trans (haA j h)
    refine lv_pop hx hb dX13_misses_30 rfl ?_
    refine lv_aload_n hx hb dX13_misses_31 rfl (lv_at hl 0 rfl) ?_
    refine gf_missed hx hb hj hown hK hP hI dX13_misses_32 (fun h_20 => ?_)
    rw [← hQ]
    exact W.iret (v := iI (g_13 86)) hx hb hr (fun t ht hW => ⟨⟨iI (g_13 86), (g_13, a_14), rfl, ⟨g_13 86, rfl, hI, hfA, haA, by omega⟩, by rw [ht]; exact hP, va_K.moved hW.alike hK, hD⟩, hS.F ht⟩) hS.2.2 dX13_misses_35
  · refine lv_iconst (v := iI (-1)) hx hb dX13_misses_14 rfl ?_
    rw [← hQ]
    exact W.iret (v := iI (-1)) hx hb hr (fun t ht hW => ⟨⟨iI (-1), (g, a), rfl, ⟨(-1), rfl, hI, hfA, haA, by omega⟩, by rw [ht]; exact hP, va_K.moved hW.alike hK, hD⟩, hS.F ht⟩) hS.2.2 dX13_misses_15
set_option maxHeartbeats 2000000 in
set_option maxRecDepth 100000 in
theorem sX13_told (l : Launch) (dC : Nat → ClassId) (dI : Nat → Nat → Nat) (sz : Nat) (ad : Nat → Nat) (ca : Nat → ClassId) (g : Nat → Int) (a : Nat → Int → Int) (p1 : Int) (p2 : Int) (hI : mI g a) (q1 : rg p1) (q2 : rg p2) : Met l yX13_told (jk yX13_told cX13_told 3 (some .int)) ({ frames := 2, cells := 0, slots := 0, locals := 43 }) (va_Pc [.ref (ad 0), .int (iI p1), .int (iI p2)] (jw_P (dC, dI) (mG ad ca g a) (mT ca) sz)) (va_Qi (fun (r : Int32) (u : (Nat → Int) × (Nat → Int → Int)) => ∃ z : Int, r = iI z ∧ (mI u.1 u.2) ∧ (∀ j, j ∉ ([86] : List Nat) → u.1 j = g j) ∧ (∀ j, j ∉ ([] : List Nat) → u.2 j = a j) ∧ (rg z)) (fun u t => va_P (dC, dI) vwCl (mG ad ca u.1 u.2) t.heap ∧ va_K (dC, dI) vwCl (mT ca) t ∧ va_D (va_A (mG ad ca g a) sz) (mG ad ca u.1 u.2)) (va_A (mG ad ca g a) sz)) 0 0 (va_A (mG ad ca g a) sz) := by
  refine Met.ofW (cc := cX13_told) (maxL := 3) (ret := (some .int)) (by decide) rfl ?_
  intro p e s m args below meth c s₁ B hml hv
  obtain ⟨rfl, hsz, hP, hK, hD0⟩ := hv
  have hx := B.exec
  have hb := B.bytes
  have hr := B.returns
  have hts := atoms_spec (ws := (jk yX13_told cX13_told 3 (some .int))) B.pre
  have hj : ∀ w ∈ jw, w.before ([.ref (ad 0), .int (iI p1), .int (iI p2)] : List Value).toArray s = true := fun w h => hts w (jm h)
  have hown : s.vm.findClass RX13 = some m.cls := findClass_of_methodNamed B.named
  subst hsz
  have hD := hD0.self (sz := s.heap.size)
  generalize hAe : (va_A (mG ad ca g a) s.heap.size) = A at hD ⊢
  have hA : ∀ q : Nat, s.heap.size ≤ q → A q := fun q h => by rw [← hAe]; exact Or.inr h
  have hS : va_S A s.heap s.heap [] := va_S.rf
  have hP : va_P (dC, dI) vwCl (mG ad ca g a) s.heap := hP
  have hfA : ∀ j, j ∉ ([86] : List Nat) → g j = g j := fun _ _ => rfl
  have haA : ∀ j, j ∉ ([] : List Nat) → a j = a j := fun _ _ => rfl
  have hl := lv_entry ([.ref (ad 0), .int (iI p1), .int (iI p2)]) (n := 3) (Nat.le_of_ble_eq_true rfl)
  rw [lg_entry_eq]
  generalize (lg_sl ([.ref (ad 0), .int (iI p1), .int (iI p2)]) ++ List.replicate (3 - (lg_sl ([.ref (ad 0), .int (iI p1), .int (iI p2)])).length) Slot.unset).toArray = ls at hl ⊢
  have hl : lv_has ls 3 [(0, .ref (ad 0)), (1, .int (iI p1)), (2, .int (iI p2))] := hl
  generalize hQ : MQ below (va_Qi (fun (r : Int32) (u : (Nat → Int) × (Nat → Int → Int)) => ∃ z : Int, r = iI z ∧ (mI u.1 u.2) ∧ (∀ j, j ∉ ([86] : List Nat) → u.1 j = g j) ∧ (∀ j, j ∉ ([] : List Nat) → u.2 j = a j) ∧ (rg z)) (fun u t => va_P (dC, dI) vwCl (mG ad ca u.1 u.2) t.heap ∧ va_K (dC, dI) vwCl (mT ca) t ∧ va_D A (mG ad ca u.1 u.2)) A) ([.ref (ad 0), .int (iI p1), .int (iI p2)] : List Value).toArray s 0 0 A = Q
  suffices ST : ∀ (H : Heap) (locs : List Loc), va_P (dC, dI) vwCl (mG ad ca g a) H → va_S A s.heap H locs → W p l e ({ frames := 2, cells := 0, slots := 0, locals := 43 }) s m ([.ref (ad 0), .int (iI p1), .int (iI p2)] : List Value).toArray below meth c H locs 0 0 Q (F0 m 0 ls []) from ST _ _ hP hS
  clear hP hS
  intro H locs hP hS
  refine lv_aload_n hx hb dX13_told_0 rfl (lv_at hl 0 rfl) ?_
  refine lv_iload_n hx hb dX13_told_1 rfl (lv_at hl 1 rfl) ?_
  refine jc_i (va_runV (As := [.int (iI p1)]) (rest := []) ⟨hx, hb, hml, hown, hts⟩ (sX13_isLine l dC dI _ ad ca g a p1 hI (by omega)) (cwV 1 hts (jgoodV m_273 m_385 m_386 m_503 m_159) rfl rfl rfl (by decide +kernel) ⟨(Nat.le_of_ble_eq_true rfl), (Nat.le_of_ble_eq_true rfl)⟩) ⟨jw_blind, va_recv hK hP (ci := 13) (q0 := 0) rfl rfl, fun U hU hW => ⟨rfl, jw_of hU hW hP hK hD⟩⟩ rfl rfl hl.1 rfl (lv_room (Nat.le_of_ble_eq_true rfl)) dX13_told_2 ⟨(Nat.le_of_ble_eq_true rfl), (Nat.le_of_ble_eq_true rfl)⟩) hP hS hA (fun r_1 H locs w_2 hP hS => ?_)
  obtain ⟨z_3, rfl, h_4, h_5⟩ := w_2
  have b_6 : 0 ≤ g 56 ∧ g 56 ≤ 300 := hI.1 56
  refine xr_if_ne (tgt := 10) hx hb dX13_told_5 (by decide) (by omega) (fun h_7 => ?_) (fun h_7 => ?_)
  · refine lv_iload_n hx hb dX13_told_10 rfl (lv_at hl 2 rfl) ?_
    rcases (show (p2 < 0 ∨ 7 < p2) ∨ p2 = 0 ∨ p2 = 1 ∨ p2 = 2 ∨ p2 = 3 ∨ p2 = 4 ∨ p2 = 5 ∨ p2 = 6 ∨ p2 = 7 by omega) with h_8 | h_8 | h_8 | h_8 | h_8 | h_8 | h_8 | h_8 | h_8
    · refine lv_tableOut (tgt := 115) hx hb dX13_told_11 (by rw [iI_toInt (by omega)]; omega) (by decide) ?_
      refine lv_iconst (v := iI (-1)) hx hb dX13_told_115 rfl ?_
      rw [← hQ]
      exact W.iret (v := iI (-1)) hx hb hr (fun t ht hW => ⟨⟨iI (-1), (g, a), rfl, ⟨(-1), rfl, hI, hfA, haA, by omega⟩, by rw [ht]; exact hP, va_K.moved hW.alike hK, hD⟩, hS.F ht⟩) hS.2.2 dX13_told_116
    · refine jtab_in (v := iI 0) (off := 45) (tgt := 56) hx hb dX13_told_11 (by rw [h_8]) (by decide) (by decide) (by decide) (by decide) ?_
      refine lv_aload_n hx hb dX13_told_56 rfl (lv_at hl 0 rfl) ?_
      refine gf_lineKeeps hx hb hj hown hK hP dX13_told_57 ?_
      refine lv_iload_n hx hb dX13_told_60 rfl (lv_at hl 1 rfl) ?_
      refine ld_lineKeeps hx hb hK hP hI (by omega) (by omega) dX13_told_61 (fun h_9 => ?_)
      rw [← hQ]
      exact W.iret (v := iI (a 46 p1)) hx hb hr (fun t ht hW => ⟨⟨iI (a 46 p1), (g, a), rfl, ⟨a 46 p1, rfl, hI, hfA, haA, by omega⟩, by rw [ht]; exact hP, va_K.moved hW.alike hK, hD⟩, hS.F ht⟩) hS.2.2 dX13_told_62
    · refine jtab_in (v := iI 1) (off := 52) (tgt := 63) hx hb dX13_told_11 (by rw [h_8]) (by decide) (by decide) (by decide) (by decide) ?_
      refine lv_aload_n hx hb dX13_told_63 rfl (lv_at hl 0 rfl) ?_
      refine lv_iload_n hx hb dX13_told_64 rfl (lv_at hl 1 rfl) ?_
      refine lv_sipush (v := iI 2000) hx hb dX13_told_65 rfl ?_
      refine lv_iconst (v := iI (-1)) hx hb dX13_told_68 rfl ?_
      refine jcg_i (va_runV (As := [.int (iI p1), .int (iI 2000), .int (iI (-1))]) (rest := []) ⟨hx, hb, hml, hown, hts⟩ (sX13_keeps l dC dI _ ad ca g a p1 2000 (-1) hI (by omega) (by omega) (by omega) (by omega)) (cwV 3 hts (jgoodV m_272 m_398 m_399 m_503 m_166) rfl rfl rfl (by decide +kernel) ⟨(Nat.le_of_ble_eq_true rfl), (Nat.le_of_ble_eq_true rfl)⟩) ⟨jw_blind, va_recv hK hP (ci := 13) (q0 := 0) rfl rfl, fun U hU hW => ⟨rfl, jw_of hU hW hP hK hD⟩⟩ rfl rfl hl.1 rfl (lv_room (Nat.le_of_ble_eq_true rfl)) dX13_told_69 ⟨(Nat.le_of_ble_eq_true rfl), (Nat.le_of_ble_eq_true rfl)⟩) hD hS hA (fun r_10 u_16 H locs w_11 hP hK hD hS => ?_)
      obtain ⟨g_14, a_15⟩ := u_16
      obtain ⟨z_12, rfl, hI, hfr_17, hfr_18, h_13⟩ := w_11
      have hP : va_P (dC, dI) vwCl (mG ad ca g_14 a_15) H := hP
      have hD : va_D A (mG ad ca g_14 a_15) := hD
      have hfA : ∀ j, j ∉ ([86] : List Nat) → g_14 j = g j := fun j h => (hfr_17 j (fun q => h (by first | exact q | (simp only [List.mem_cons, List.not_mem_nil, or_false] at q ⊢ <;> omega)))).trans (hfA j h)
      have haA : ∀ j, j ∉ ([] : List Nat) → a_15 j = a j := fun j h => (hfr_18 j (fun q => h (by first | exact q | (simp only [List.mem_cons, List.not_mem_nil, or_false] at q ⊢ <;> omega)))).trans (haA j h)
      rw [← hQ]
      exact W.iret (v := iI z_12) hx hb hr (fun t ht hW => ⟨⟨iI z_12, (g_14, a_15), rfl, ⟨z_12, rfl, hI, hfA, haA, by omega⟩, by rw [ht]; exact hP, va_K.moved hW.alike hK, hD⟩, hS.F ht⟩) hS.2.2 dX13_told_72
    · refine jtab_in (v := iI 2) (off := 62) (tgt := 73) hx hb dX13_told_11 (by rw [h_8]) (by decide) (by decide) (by decide) (by decide) ?_
      refine lv_aload_n hx hb dX13_told_73 rfl (lv_at hl 0 rfl) ?_
      refine gf_lineFact hx hb hj hown hK hP dX13_told_74 ?_
      refine lv_iload_n hx hb dX13_told_77 rfl (lv_at hl 1 rfl) ?_
      refine ld_lineFact hx hb hK hP hI (by omega) (by omega) dX13_told_78 (fun h_20 => ?_)
      rw [← hQ]
      exact W.iret (v := iI (a 44 p1)) hx hb hr (fun t ht hW => ⟨⟨iI (a 44 p1), (g, a), rfl, ⟨a 44 p1, rfl, hI, hfA, haA, by omega⟩, by rw [ht]; exact hP, va_K.moved hW.alike hK, hD⟩, hS.F ht⟩) hS.2.2 dX13_told_79
    · refine jtab_in (v := iI 3) (off := 69) (tgt := 80) hx hb dX13_told_11 (by rw [h_8]) (by decide) (by decide) (by decide) (by decide) ?_
      refine lv_aload_n hx hb dX13_told_80 rfl (lv_at hl 0 rfl) ?_
      refine gf_lineOn hx hb hj hown hK hP dX13_told_81 ?_
      refine lv_iload_n hx hb dX13_told_84 rfl (lv_at hl 1 rfl) ?_
      refine ld_lineOn hx hb hK hP hI (by omega) (by omega) dX13_told_85 (fun h_21 => ?_)
      rw [← hQ]
      exact W.iret (v := iI (a 45 p1)) hx hb hr (fun t ht hW => ⟨⟨iI (a 45 p1), (g, a), rfl, ⟨a 45 p1, rfl, hI, hfA, haA, by omega⟩, by rw [ht]; exact hP, va_K.moved hW.alike hK, hD⟩, hS.F ht⟩) hS.2.2 dX13_told_86
    · refine jtab_in (v := iI 4) (off := 76) (tgt := 87) hx hb dX13_told_11 (by rw [h_8]) (by decide) (by decide) (by decide) (by decide) ?_
      refine lv_aload_n hx hb dX13_told_87 rfl (lv_at hl 0 rfl) ?_
      refine gf_lineOf hx hb hj hown hK hP dX13_told_88 ?_
      refine lv_iload_n hx hb dX13_told_91 rfl (lv_at hl 1 rfl) ?_
      refine ld_lineOf hx hb hK hP hI (by omega) (by omega) dX13_told_92 (fun h_22 => ?_)
      rw [← hQ]
      exact W.iret (v := iI (a 42 p1)) hx hb hr (fun t ht hW => ⟨⟨iI (a 42 p1), (g, a), rfl, ⟨a 42 p1, rfl, hI, hfA, haA, by omega⟩, by rw [ht]; exact hP, va_K.moved hW.alike hK, hD⟩, hS.F ht⟩) hS.2.2 dX13_told_93
    · refine jtab_in (v := iI 5) (off := 83) (tgt := 94) hx hb dX13_told_11 (by rw [h_8]) (by decide) (by decide) (by decide) (by decide) ?_
      refine lv_aload_n hx hb dX13_told_94 rfl (lv_at hl 0 rfl) ?_
      refine gf_linePage hx hb hj hown hK hP dX13_told_95 ?_
      refine lv_iload_n hx hb dX13_told_98 rfl (lv_at hl 1 rfl) ?_
      refine ld_linePage hx hb hK hP hI (by omega) (by omega) dX13_told_99 (fun h_23 => ?_)
      rw [← hQ]
      exact W.iret (v := iI (a 49 p1)) hx hb hr (fun t ht hW => ⟨⟨iI (a 49 p1), (g, a), rfl, ⟨a 49 p1, rfl, hI, hfA, haA, by omega⟩, by rw [ht]; exact hP, va_K.moved hW.alike hK, hD⟩, hS.F ht⟩) hS.2.2 dX13_told_100
    · refine jtab_in (v := iI 6) (off := 90) (tgt := 101) hx hb dX13_told_11 (by rw [h_8]) (by decide) (by decide) (by decide) (by decide) ?_
      refine lv_aload_n hx hb dX13_told_101 rfl (lv_at hl 0 rfl) ?_
      refine gf_linePay hx hb hj hown hK hP dX13_told_102 ?_
      refine lv_iload_n hx hb dX13_told_105 rfl (lv_at hl 1 rfl) ?_
      refine ld_linePay hx hb hK hP hI (by omega) (by omega) dX13_told_106 (fun h_24 => ?_)
      rw [← hQ]
      exact W.iret (v := iI (a 48 p1)) hx hb hr (fun t ht hW => ⟨⟨iI (a 48 p1), (g, a), rfl, ⟨a 48 p1, rfl, hI, hfA, haA, by omega⟩, by rw [ht]; exact hP, va_K.moved hW.alike hK, hD⟩, hS.F ht⟩) hS.2.2 dX13_told_107
    · refine jtab_in (v := iI 7) (off := 97) (tgt := 108) hx hb dX13_told_11 (by rw [h_8]) (by decide) (by decide) (by decide) (by decide) ?_
      refine lv_aload_n hx hb dX13_told_108 rfl (lv_at hl 0 rfl) ?_
      refine gf_lineHand hx hb hj hown hK hP dX13_told_109 ?_
      refine lv_iload_n hx hb dX13_told_112 rfl (lv_at hl 1 rfl) ?_
      refine ld_lineHand hx hb hK hP hI (by omega) (by omega) dX13_told_113 (fun h_25 => ?_)
      rw [← hQ]
      exact W.iret (v := iI (a 43 p1)) hx hb hr (fun t ht hW => ⟨⟨iI (a 43 p1), (g, a), rfl, ⟨a 43 p1, rfl, hI, hfA, haA, by omega⟩, by rw [ht]; exact hP, va_K.moved hW.alike hK, hD⟩, hS.F ht⟩) hS.2.2 dX13_told_114
  · refine lv_iconst (v := iI (-1)) hx hb dX13_told_8 rfl ?_
    rw [← hQ]
    exact W.iret (v := iI (-1)) hx hb hr (fun t ht hW => ⟨⟨iI (-1), (g, a), rfl, ⟨(-1), rfl, hI, hfA, haA, by omega⟩, by rw [ht]; exact hP, va_K.moved hW.alike hK, hD⟩, hS.F ht⟩) hS.2.2 dX13_told_9
set_option maxHeartbeats 2000000 in
set_option maxRecDepth 100000 in
theorem sX13_die (l : Launch) (dC : Nat → ClassId) (dI : Nat → Nat → Nat) (sz : Nat) (ad : Nat → Nat) (ca : Nat → ClassId) (g : Nat → Int) (a : Nat → Int → Int) (p1 : Int) (hI : mI g a) (q1 : rg p1) : Met l yX13_die (jk yX13_die cX13_die 4 (some .int)) ({ frames := 3, cells := 0, slots := 0, locals := 65 }) (va_Pc [.ref (ad 0), .int (iI p1)] (jw_P (dC, dI) (mG ad ca g a) (mT ca) sz)) (va_Qi (fun (r : Int32) (u : (Nat → Int) × (Nat → Int → Int)) => ∃ z : Int, r = iI z ∧ (u.1 = g) ∧ (mI u.1 u.2) ∧ (∀ j, j ∉ ([40] : List Nat) → u.2 j = a j) ∧ (rg z)) (fun u t => va_P (dC, dI) vwCl (mG ad ca u.1 u.2) t.heap ∧ va_K (dC, dI) vwCl (mT ca) t ∧ va_D (va_A (mG ad ca g a) sz) (mG ad ca u.1 u.2)) (va_A (mG ad ca g a) sz)) 0 0 (va_A (mG ad ca g a) sz) := by
  refine Met.ofW (cc := cX13_die) (maxL := 4) (ret := (some .int)) (by decide) rfl ?_
  intro p e s m args below meth c s₁ B hml hv
  obtain ⟨rfl, hsz, hP, hK, hD0⟩ := hv
  have hx := B.exec
  have hb := B.bytes
  have hr := B.returns
  have hts := atoms_spec (ws := (jk yX13_die cX13_die 4 (some .int))) B.pre
  have hj : ∀ w ∈ jw, w.before ([.ref (ad 0), .int (iI p1)] : List Value).toArray s = true := fun w h => hts w (jm h)
  have hown : s.vm.findClass RX13 = some m.cls := findClass_of_methodNamed B.named
  subst hsz
  have hD := hD0.self (sz := s.heap.size)
  generalize hAe : (va_A (mG ad ca g a) s.heap.size) = A at hD ⊢
  have hA : ∀ q : Nat, s.heap.size ≤ q → A q := fun q h => by rw [← hAe]; exact Or.inr h
  have hS : va_S A s.heap s.heap [] := va_S.rf
  have hP : va_P (dC, dI) vwCl (mG ad ca g a) s.heap := hP
  have haA : ∀ j, j ∉ ([40] : List Nat) → a j = a j := fun _ _ => rfl
  have hl := lv_entry ([.ref (ad 0), .int (iI p1)]) (n := 4) (Nat.le_of_ble_eq_true rfl)
  rw [lg_entry_eq]
  generalize (lg_sl ([.ref (ad 0), .int (iI p1)]) ++ List.replicate (4 - (lg_sl ([.ref (ad 0), .int (iI p1)])).length) Slot.unset).toArray = ls at hl ⊢
  have hl : lv_has ls 4 [(0, .ref (ad 0)), (1, .int (iI p1))] := hl
  generalize hQ : MQ below (va_Qi (fun (r : Int32) (u : (Nat → Int) × (Nat → Int → Int)) => ∃ z : Int, r = iI z ∧ (u.1 = g) ∧ (mI u.1 u.2) ∧ (∀ j, j ∉ ([40] : List Nat) → u.2 j = a j) ∧ (rg z)) (fun u t => va_P (dC, dI) vwCl (mG ad ca u.1 u.2) t.heap ∧ va_K (dC, dI) vwCl (mT ca) t ∧ va_D A (mG ad ca u.1 u.2)) A) ([.ref (ad 0), .int (iI p1)] : List Value).toArray s 0 0 A = Q
  suffices ST : ∀ (H : Heap) (locs : List Loc), va_P (dC, dI) vwCl (mG ad ca g a) H → va_S A s.heap H locs → W p l e ({ frames := 3, cells := 0, slots := 0, locals := 65 }) s m ([.ref (ad 0), .int (iI p1)] : List Value).toArray below meth c H locs 0 0 Q (F0 m 0 ls []) from ST _ _ hP hS
  clear hP hS
  intro H locs hP hS
  refine lv_aload_n hx hb dX13_die_0 rfl (lv_at hl 0 rfl) ?_
  refine lv_iload_n hx hb dX13_die_1 rfl (lv_at hl 1 rfl) ?_
  refine jc_i (va_runV (As := [.int (iI p1)]) (rest := []) ⟨hx, hb, hml, hown, hts⟩ (sX13_isHand l dC dI _ ad ca g a p1 hI (by omega)) (cwV 1 hts (jgoodV m_261 m_382 m_383 m_503 m_157) rfl rfl rfl (by decide +kernel) ⟨(Nat.le_of_ble_eq_true rfl), (Nat.le_of_ble_eq_true rfl)⟩) ⟨jw_blind, va_recv hK hP (ci := 13) (q0 := 0) rfl rfl, fun U hU hW => ⟨rfl, jw_of hU hW hP hK hD⟩⟩ rfl rfl hl.1 rfl (lv_room (Nat.le_of_ble_eq_true rfl)) dX13_die_2 ⟨(Nat.le_of_ble_eq_true rfl), (Nat.le_of_ble_eq_true rfl)⟩) hP hS hA (fun r_1 H locs w_2 hP hS => ?_)
  obtain ⟨z_3, rfl, h_4, h_5⟩ := w_2
  have b_6 : 0 ≤ g 50 ∧ g 50 ≤ 12 := hI.1 50
  refine xr_if_eq (tgt := 17) hx hb dX13_die_5 (by decide) (by omega) (fun h_7 => ?_) (fun h_7 => ?_)
  · refine lv_iconst (v := iI (-1)) hx hb dX13_die_17 rfl ?_
    rw [← hQ]
    exact W.iret (v := iI (-1)) hx hb hr (fun t ht hW => ⟨⟨iI (-1), (g, a), rfl, ⟨(-1), rfl, rfl, hI, haA, by omega⟩, by rw [ht]; exact hP, va_K.moved hW.alike hK, hD⟩, hS.F ht⟩) hS.2.2 dX13_die_18
  · refine lv_aload_n hx hb dX13_die_8 rfl (lv_at hl 0 rfl) ?_
    refine gf_isDead hx hb hj hown hK hP dX13_die_9 ?_
    refine lv_iload_n hx hb dX13_die_12 rfl (lv_at hl 1 rfl) ?_
    refine ld_isDead hx hb hK hP hI (by omega) (by omega) dX13_die_13 (fun h_8 => ?_)
    refine xr_if_eq (tgt := 19) hx hb dX13_die_14 (by decide) (by omega) (fun h_9 => ?_) (fun h_9 => ?_)
    · refine lv_aload_n hx hb dX13_die_19 rfl (lv_at hl 0 rfl) ?_
      refine gf_isDead hx hb hj hown hK hP dX13_die_20 ?_
      refine lv_iload_n hx hb dX13_die_23 rfl (lv_at hl 1 rfl) ?_
      refine lv_iconst (v := iI 1) hx hb dX13_die_24 rfl ?_
      refine st_isDead hx hb hK hP hD hS hI (by omega) (by omega) (by omega) (by omega) dX13_die_25 (fun a_10 H locs e_11 e_12 hI hP hD hS => ?_)
      have haA : ∀ j, j ∉ ([40] : List Nat) → a_10 j = a j := fun j h => (e_11 j (fun q => h (q ▸ (by decide : 40 ∈ ([40] : List Nat))))).trans (haA j h)
      refine lv_iconst (v := iI 0) hx hb dX13_die_26 rfl ?_
      refine lv_istore_n (lv' := [(2, .int (iI 0)), (0, .ref (ad 0)), (1, .int (iI p1))]) hx hb dX13_die_27 rfl hl (by decide) rfl (fun ls hl => ?_)
      refine lv_iconst (v := iI 0) hx hb dX13_die_28 rfl ?_
      refine lv_istore_n (lv' := [(3, .int (iI 0)), (2, .int (iI 0)), (0, .ref (ad 0)), (1, .int (iI p1))]) hx hb dX13_die_29 rfl hl (by decide) rfl (fun ls hl => ?_)
      have L30 : ∀ (n30 : Nat) (v3_30 v2_30 : Int) (H : Heap) (locs : List Loc) (ls : Array Slot), (0 ≤ v3_30 ∧ v3_30 ≤ 2147483647) → ((-2147483648) ≤ v2_30 ∧ v2_30 ≤ 2147483647) → (0 < (n30 : Int) ∧ (g 37) - v3_30 < (n30 : Int)) → va_P (dC, dI) vwCl (mG ad ca g a_10) H → va_D A (mG ad ca g a_10) → va_S A s.heap H locs → lv_has ls 4 [(3, .int (iI v3_30)), (2, .int (iI v2_30)), (0, .ref (ad 0)), (1, .int (iI p1))] → W p l e ({ frames := 3, cells := 0, slots := 0, locals := 65 }) s m ([.ref (ad 0), .int (iI p1)] : List Value).toArray below meth c H locs 0 0 Q (F0 m 30 ls []) := by
        intro n30
        induction n30 with
        | zero =>
          intro v3_30 v2_30 H locs ls h_13 h_14 hm30 hP hD hS hl
          exfalso; omega
        | succ n30 ih30 =>
          intro v3_30 v2_30 H locs ls h_15 h_16 hm30 hP hD hS hl
          refine lv_iload_n hx hb dX13_die_30 rfl (lv_at hl 0 rfl) ?_
          refine lv_aload_n hx hb dX13_die_31 rfl (lv_at hl 2 rfl) ?_
          refine gf_entries hx hb hj hown hK hP hI dX13_die_32 (fun h_17 => ?_)
          refine xr_icmp_ge (tgt := 70) hx hb dX13_die_35 (by decide) (by omega) (by omega) (fun h_18 => ?_) (fun h_18 => ?_)
          · refine lv_iload_n hx hb dX13_die_70 rfl (lv_at hl 1 rfl) ?_
            rw [← hQ]
            exact W.iret (v := iI v2_30) hx hb hr (fun t ht hW => ⟨⟨iI v2_30, (g, a_10), rfl, ⟨v2_30, rfl, rfl, hI, haA, by omega⟩, by rw [ht]; exact hP, va_K.moved hW.alike hK, hD⟩, hS.F ht⟩) hS.2.2 dX13_die_71
          · refine lv_iload_n hx hb dX13_die_38 rfl (lv_at hl 1 rfl) ?_
            refine lv_aload_n hx hb dX13_die_39 rfl (lv_at hl 2 rfl) ?_
            refine lv_iload_n hx hb dX13_die_40 rfl (lv_at hl 0 rfl) ?_
            refine jc_i (va_runV (As := [.int (iI v3_30)]) (rest := [.int (iI v2_30)]) ⟨hx, hb, hml, hown, hts⟩ (sX13_hangs l dC dI _ ad ca g a_10 v3_30 hI (by omega) (by omega)) (cwV 1 hts (jgoodV m_271 m_358 m_359 m_503 m_144) rfl rfl rfl (by decide +kernel) ⟨(Nat.le_of_ble_eq_true rfl), (Nat.le_of_ble_eq_true rfl)⟩) ⟨jw_blind, va_recv hK hP (ci := 13) (q0 := 0) rfl rfl, fun U hU hW => ⟨rfl, jw_of hU hW hP hK hD⟩⟩ rfl rfl hl.1 rfl (lv_room (Nat.le_of_ble_eq_true rfl)) dX13_die_41 ⟨(Nat.le_of_ble_eq_true rfl), (Nat.le_of_ble_eq_true rfl)⟩) hP hS hA (fun r_19 H locs w_20 hP hS => ?_)
            obtain ⟨z_21, rfl, h_22⟩ := w_20
            have J62 : ∀ (s0_62 : Int) (H : Heap) (locs : List Loc) (ls : Array Slot), (0 ≤ s0_62 ∧ s0_62 ≤ 1) → va_P (dC, dI) vwCl (mG ad ca g a_10) H → va_D A (mG ad ca g a_10) → va_S A s.heap H locs → lv_has ls 4 [(3, .int (iI v3_30)), (2, .int (iI v2_30)), (0, .ref (ad 0)), (1, .int (iI p1))] → W p l e ({ frames := 3, cells := 0, slots := 0, locals := 65 }) s m ([.ref (ad 0), .int (iI p1)] : List Value).toArray below meth c H locs 0 0 Q (F0 m 62 ls [.int (iI s0_62), .int (iI v2_30)]) := by
              intro s0_62 H locs ls h_23 hP hD hS hl
              refine xr_add hx hb dX13_die_62 ?_
              refine xr_kept (fun z_24 h_25 h_26 => ?_)
              refine lv_istore_n (lv' := [(2, .int (iI z_24)), (3, .int (iI v3_30)), (0, .ref (ad 0)), (1, .int (iI p1))]) hx hb dX13_die_63 rfl hl (by decide) rfl (fun ls hl => ?_)
              refine lv_iinc (v := iI (v3_30 + 1)) (lv' := [(3, .int (iI (v3_30 + 1))), (2, .int (iI z_24)), (0, .ref (ad 0)), (1, .int (iI p1))]) hx hb dX13_die_64 hl (k := 1) rfl (iI_add _ _) (by decide) rfl (fun ls hl => ?_)
              refine lv_goto (tgt := 30) hx hb dX13_die_67 (by decide) ?_
              exact ih30 (v3_30 + 1) z_24 H locs ls (by omega) (by omega) (by omega) hP hD hS hl
            have J61 : ∀ (H : Heap) (locs : List Loc) (ls : Array Slot), va_P (dC, dI) vwCl (mG ad ca g a_10) H → va_D A (mG ad ca g a_10) → va_S A s.heap H locs → lv_has ls 4 [(3, .int (iI v3_30)), (2, .int (iI v2_30)), (0, .ref (ad 0)), (1, .int (iI p1))] → W p l e ({ frames := 3, cells := 0, slots := 0, locals := 65 }) s m ([.ref (ad 0), .int (iI p1)] : List Value).toArray below meth c H locs 0 0 Q (F0 m 61 ls [.int (iI v2_30)]) := by
              intro H locs ls hP hD hS hl
              refine lv_iconst (v := iI 0) hx hb dX13_die_61 rfl ?_
              exact J62 0 H locs ls (by omega) hP hD hS hl
            refine xr_if_eq (tgt := 61) hx hb dX13_die_44 (by decide) (by omega) (fun h_27 => ?_) (fun h_27 => ?_)
            · exact J61 H locs ls hP hD hS hl
            · refine lv_aload_n hx hb dX13_die_47 rfl (lv_at hl 2 rfl) ?_
              refine gf_givenTo hx hb hj hown hK hP dX13_die_48 ?_
              refine lv_iload_n hx hb dX13_die_51 rfl (lv_at hl 0 rfl) ?_
              refine ld_givenTo hx hb hK hP hI (by omega) (by omega) dX13_die_52 (fun h_28 => ?_)
              refine lv_iload_n hx hb dX13_die_53 rfl (lv_at hl 3 rfl) ?_
              refine xr_icmp_ne (tgt := 61) hx hb dX13_die_54 (by decide) (by omega) (by omega) (fun h_29 => ?_) (fun h_29 => ?_)
              · exact J61 H locs ls hP hD hS hl
              · refine lv_iconst (v := iI 1) hx hb dX13_die_57 rfl ?_
                refine lv_goto (tgt := 62) hx hb dX13_die_58 (by decide) ?_
                exact J62 1 H locs ls (by omega) hP hD hS hl
      exact L30 ((((g 37) - 0 : Int)).toNat + 1) 0 0 H locs ls (by omega) (by omega) (by omega) hP hD hS hl
    · refine lv_iconst (v := iI (-1)) hx hb dX13_die_17 rfl ?_
      rw [← hQ]
      exact W.iret (v := iI (-1)) hx hb hr (fun t ht hW => ⟨⟨iI (-1), (g, a), rfl, ⟨(-1), rfl, rfl, hI, haA, by omega⟩, by rw [ht]; exact hP, va_K.moved hW.alike hK, hD⟩, hS.F ht⟩) hS.2.2 dX13_die_18
set_option maxHeartbeats 2000000 in
set_option maxRecDepth 100000 in
theorem sX13_enemies (l : Launch) (dC : Nat → ClassId) (dI : Nat → Nat → Nat) (sz : Nat) (ad : Nat → Nat) (ca : Nat → ClassId) (g : Nat → Int) (a : Nat → Int → Int) (p1 : Int) (p2 : Int) (hI : mI g a) (q1 : rg p1) (q2 : rg p2) : Met l yX13_enemies (jk yX13_enemies cX13_enemies 3 (some .boolean)) ({ frames := 2, cells := 0, slots := 0, locals := 43 }) (va_Pc [.ref (ad 0), .int (iI p1), .int (iI p2)] (jw_P (dC, dI) (mG ad ca g a) (mT ca) sz)) (va_Qi (fun (r : Int32) (u : (Nat → Int) × (Nat → Int → Int)) => ∃ z : Int, r = iI z ∧ (u.1 = g) ∧ (mI u.1 u.2) ∧ (∀ j, j ∉ ([41] : List Nat) → u.2 j = a j) ∧ (0 ≤ z ∧ z ≤ 1) ∧ ((z = 0 ∧ (p1 < 0 ∨ g 50 ≤ p1 ∨ p2 < 0 ∨ g 50 ≤ p2 ∨ p1 = p2 ∨ a 41 (12 * p1 + p2) ≠ 0)) ∨ (z = 1 ∧ 0 ≤ p1 ∧ p1 < g 50 ∧ 0 ≤ p2 ∧ p2 < g 50 ∧ p1 ≠ p2 ∧ a 41 (12 * p1 + p2) = 0)) ∧ (z = 1 ∨ u.2 41 = a 41) ∧ (z = 0 ∨ u.2 41 = up (up (a 41) (12 * p1 + p2) 1) (12 * p2 + p1) 1)) (fun u t => va_P (dC, dI) vwCl (mG ad ca u.1 u.2) t.heap ∧ va_K (dC, dI) vwCl (mT ca) t ∧ va_D (va_A (mG ad ca g a) sz) (mG ad ca u.1 u.2)) (va_A (mG ad ca g a) sz)) 0 0 (va_A (mG ad ca g a) sz) := by
  refine Met.ofW (cc := cX13_enemies) (maxL := 3) (ret := (some .boolean)) (by decide) rfl ?_
  intro p e s m args below meth c s₁ B hml hv
  obtain ⟨rfl, hsz, hP, hK, hD0⟩ := hv
  have hx := B.exec
  have hb := B.bytes
  have hr := B.returns
  have hts := atoms_spec (ws := (jk yX13_enemies cX13_enemies 3 (some .boolean))) B.pre
  have hj : ∀ w ∈ jw, w.before ([.ref (ad 0), .int (iI p1), .int (iI p2)] : List Value).toArray s = true := fun w h => hts w (jm h)
  have hown : s.vm.findClass RX13 = some m.cls := findClass_of_methodNamed B.named
  subst hsz
  have hD := hD0.self (sz := s.heap.size)
  generalize hAe : (va_A (mG ad ca g a) s.heap.size) = A at hD ⊢
  have hA : ∀ q : Nat, s.heap.size ≤ q → A q := fun q h => by rw [← hAe]; exact Or.inr h
  have hS : va_S A s.heap s.heap [] := va_S.rf
  have hP : va_P (dC, dI) vwCl (mG ad ca g a) s.heap := hP
  have haA : ∀ j, j ∉ ([41] : List Nat) → a j = a j := fun _ _ => rfl
  have hl := lv_entry ([.ref (ad 0), .int (iI p1), .int (iI p2)]) (n := 3) (Nat.le_of_ble_eq_true rfl)
  rw [lg_entry_eq]
  generalize (lg_sl ([.ref (ad 0), .int (iI p1), .int (iI p2)]) ++ List.replicate (3 - (lg_sl ([.ref (ad 0), .int (iI p1), .int (iI p2)])).length) Slot.unset).toArray = ls at hl ⊢
  have hl : lv_has ls 3 [(0, .ref (ad 0)), (1, .int (iI p1)), (2, .int (iI p2))] := hl
  generalize hQ : MQ below (va_Qi (fun (r : Int32) (u : (Nat → Int) × (Nat → Int → Int)) => ∃ z : Int, r = iI z ∧ (u.1 = g) ∧ (mI u.1 u.2) ∧ (∀ j, j ∉ ([41] : List Nat) → u.2 j = a j) ∧ (0 ≤ z ∧ z ≤ 1) ∧ ((z = 0 ∧ (p1 < 0 ∨ g 50 ≤ p1 ∨ p2 < 0 ∨ g 50 ≤ p2 ∨ p1 = p2 ∨ a 41 (12 * p1 + p2) ≠ 0)) ∨ (z = 1 ∧ 0 ≤ p1 ∧ p1 < g 50 ∧ 0 ≤ p2 ∧ p2 < g 50 ∧ p1 ≠ p2 ∧ a 41 (12 * p1 + p2) = 0)) ∧ (z = 1 ∨ u.2 41 = a 41) ∧ (z = 0 ∨ u.2 41 = up (up (a 41) (12 * p1 + p2) 1) (12 * p2 + p1) 1)) (fun u t => va_P (dC, dI) vwCl (mG ad ca u.1 u.2) t.heap ∧ va_K (dC, dI) vwCl (mT ca) t ∧ va_D A (mG ad ca u.1 u.2)) A) ([.ref (ad 0), .int (iI p1), .int (iI p2)] : List Value).toArray s 0 0 A = Q
  suffices ST : ∀ (H : Heap) (locs : List Loc), va_P (dC, dI) vwCl (mG ad ca g a) H → va_S A s.heap H locs → W p l e ({ frames := 2, cells := 0, slots := 0, locals := 43 }) s m ([.ref (ad 0), .int (iI p1), .int (iI p2)] : List Value).toArray below meth c H locs 0 0 Q (F0 m 0 ls []) from ST _ _ hP hS
  clear hP hS
  intro H locs hP hS
  have b50_0 : 0 ≤ g 50 ∧ g 50 ≤ 12 := hI.1 50
  refine lv_aload_n hx hb dX13_enemies_0 rfl (lv_at hl 0 rfl) ?_
  refine lv_iload_n hx hb dX13_enemies_1 rfl (lv_at hl 1 rfl) ?_
  refine jc_i (va_runV (As := [.int (iI p1)]) (rest := []) ⟨hx, hb, hml, hown, hts⟩ (sX13_isHand l dC dI _ ad ca g a p1 hI (by omega)) (cwV 1 hts (jgoodV m_261 m_382 m_383 m_503 m_157) rfl rfl rfl (by decide +kernel) ⟨(Nat.le_of_ble_eq_true rfl), (Nat.le_of_ble_eq_true rfl)⟩) ⟨jw_blind, va_recv hK hP (ci := 13) (q0 := 0) rfl rfl, fun U hU hW => ⟨rfl, jw_of hU hW hP hK hD⟩⟩ rfl rfl hl.1 rfl (lv_room (Nat.le_of_ble_eq_true rfl)) dX13_enemies_2 ⟨(Nat.le_of_ble_eq_true rfl), (Nat.le_of_ble_eq_true rfl)⟩) hP hS hA (fun r_1 H locs w_2 hP hS => ?_)
  obtain ⟨z_3, rfl, h_4, h_5⟩ := w_2
  have b_6 : 0 ≤ g 50 ∧ g 50 ≤ 12 := hI.1 50
  refine xr_if_eq (tgt := 35) hx hb dX13_enemies_5 (by decide) (by omega) (fun h_7 => ?_) (fun h_7 => ?_)
  · refine lv_iconst (v := iI 0) hx hb dX13_enemies_35 rfl ?_
    rw [← hQ]
    exact W.zret (v := iI 0) (ty := .boolean) hx hb hr (nb_bool (by omega) (by omega)) (fun t ht hW => ⟨⟨iI 0, (g, a), rfl, ⟨0, rfl, rfl, hI, haA, by omega, by omega, by show 0 = 1 ∨ a 41 = a 41; first | exact Or.inl rfl | exact Or.inr rfl | exact Or.inr ((rfl).trans (up_c (up_c rfl (by omega) (by omega)) (by omega) (by omega))), by show 0 = 0 ∨ a 41 = up (up (a 41) (12 * p1 + p2) 1) (12 * p2 + p1) 1; first | exact Or.inl rfl | exact Or.inr rfl | exact Or.inr ((rfl).trans (up_c (up_c rfl (by omega) (by omega)) (by omega) (by omega)))⟩, by rw [ht]; exact hP, va_K.moved hW.alike hK, hD⟩, hS.F ht⟩) hS.2.2 dX13_enemies_36
  · refine lv_aload_n hx hb dX13_enemies_8 rfl (lv_at hl 0 rfl) ?_
    refine lv_iload_n hx hb dX13_enemies_9 rfl (lv_at hl 2 rfl) ?_
    refine jc_i (va_runV (As := [.int (iI p2)]) (rest := []) ⟨hx, hb, hml, hown, hts⟩ (sX13_isHand l dC dI _ ad ca g a p2 hI (by omega)) (cwV 1 hts (jgoodV m_261 m_382 m_383 m_503 m_157) rfl rfl rfl (by decide +kernel) ⟨(Nat.le_of_ble_eq_true rfl), (Nat.le_of_ble_eq_true rfl)⟩) ⟨jw_blind, va_recv hK hP (ci := 13) (q0 := 0) rfl rfl, fun U hU hW => ⟨rfl, jw_of hU hW hP hK hD⟩⟩ rfl rfl hl.1 rfl (lv_room (Nat.le_of_ble_eq_true rfl)) dX13_enemies_10 ⟨(Nat.le_of_ble_eq_true rfl), (Nat.le_of_ble_eq_true rfl)⟩) hP hS hA (fun r_8 H locs w_9 hP hS => ?_)
    obtain ⟨z_10, rfl, h_11, h_12⟩ := w_9
    have b_13 : 0 ≤ g 50 ∧ g 50 ≤ 12 := hI.1 50
    refine xr_if_eq (tgt := 35) hx hb dX13_enemies_13 (by decide) (by omega) (fun h_14 => ?_) (fun h_14 => ?_)
    · refine lv_iconst (v := iI 0) hx hb dX13_enemies_35 rfl ?_
      rw [← hQ]
      exact W.zret (v := iI 0) (ty := .boolean) hx hb hr (nb_bool (by omega) (by omega)) (fun t ht hW => ⟨⟨iI 0, (g, a), rfl, ⟨0, rfl, rfl, hI, haA, by omega, by omega, by show 0 = 1 ∨ a 41 = a 41; first | exact Or.inl rfl | exact Or.inr rfl | exact Or.inr ((rfl).trans (up_c (up_c rfl (by omega) (by omega)) (by omega) (by omega))), by show 0 = 0 ∨ a 41 = up (up (a 41) (12 * p1 + p2) 1) (12 * p2 + p1) 1; first | exact Or.inl rfl | exact Or.inr rfl | exact Or.inr ((rfl).trans (up_c (up_c rfl (by omega) (by omega)) (by omega) (by omega)))⟩, by rw [ht]; exact hP, va_K.moved hW.alike hK, hD⟩, hS.F ht⟩) hS.2.2 dX13_enemies_36
    · refine lv_iload_n hx hb dX13_enemies_16 rfl (lv_at hl 1 rfl) ?_
      refine lv_iload_n hx hb dX13_enemies_17 rfl (lv_at hl 2 rfl) ?_
      refine xr_icmp_eq (tgt := 35) hx hb dX13_enemies_18 (by decide) (by omega) (by omega) (fun h_15 => ?_) (fun h_15 => ?_)
      · refine lv_iconst (v := iI 0) hx hb dX13_enemies_35 rfl ?_
        rw [← hQ]
        exact W.zret (v := iI 0) (ty := .boolean) hx hb hr (nb_bool (by omega) (by omega)) (fun t ht hW => ⟨⟨iI 0, (g, a), rfl, ⟨0, rfl, rfl, hI, haA, by omega, by omega, by show 0 = 1 ∨ a 41 = a 41; first | exact Or.inl rfl | exact Or.inr rfl | exact Or.inr ((rfl).trans (up_c (up_c rfl (by omega) (by omega)) (by omega) (by omega))), by show 0 = 0 ∨ a 41 = up (up (a 41) (12 * p1 + p2) 1) (12 * p2 + p1) 1; first | exact Or.inl rfl | exact Or.inr rfl | exact Or.inr ((rfl).trans (up_c (up_c rfl (by omega) (by omega)) (by omega) (by omega)))⟩, by rw [ht]; exact hP, va_K.moved hW.alike hK, hD⟩, hS.F ht⟩) hS.2.2 dX13_enemies_36
      · refine lv_aload_n hx hb dX13_enemies_21 rfl (lv_at hl 0 rfl) ?_
        refine gf_areEnemies hx hb hj hown hK hP dX13_enemies_22 ?_
        refine lv_bipush (v := iI 12) hx hb dX13_enemies_25 rfl ?_
        refine lv_iload_n hx hb dX13_enemies_27 rfl (lv_at hl 1 rfl) ?_
        refine xr_mul hx hb dX13_enemies_28 ?_
        refine xr_kept (fun z_16 h_17 h_18 => ?_)
        refine lv_iload_n hx hb dX13_enemies_29 rfl (lv_at hl 2 rfl) ?_
        refine xr_add hx hb dX13_enemies_30 ?_
        refine xr_kept (fun z_19 h_20 h_21 => ?_)
        have hx9 : a 41 (z_19) = a 41 (12 * p1 + p2) := congrArg (a 41) (by omega)
        refine ld_areEnemies hx hb hK hP hI (by omega) (by omega) dX13_enemies_31 (fun h_22 => ?_)
        refine xr_if_eq (tgt := 37) hx hb dX13_enemies_32 (by decide) (by omega) (fun h_23 => ?_) (fun h_23 => ?_)
        · refine lv_aload_n hx hb dX13_enemies_37 rfl (lv_at hl 0 rfl) ?_
          refine gf_areEnemies hx hb hj hown hK hP dX13_enemies_38 ?_
          refine lv_bipush (v := iI 12) hx hb dX13_enemies_41 rfl ?_
          refine lv_iload_n hx hb dX13_enemies_43 rfl (lv_at hl 1 rfl) ?_
          refine xr_mul hx hb dX13_enemies_44 ?_
          refine xr_kept (fun z_24 h_25 h_26 => ?_)
          refine lv_iload_n hx hb dX13_enemies_45 rfl (lv_at hl 2 rfl) ?_
          refine xr_add hx hb dX13_enemies_46 ?_
          refine xr_kept (fun z_27 h_28 h_29 => ?_)
          refine lv_iconst (v := iI 1) hx hb dX13_enemies_47 rfl ?_
          refine st_areEnemies hx hb hK hP hD hS hI (by omega) (by omega) (by omega) (by omega) dX13_enemies_48 (fun a_30 H locs e_31 e_32 hI hP hD hS => ?_)
          have haA : ∀ j, j ∉ ([41] : List Nat) → a_30 j = a j := fun j h => (e_31 j (fun q => h (q ▸ (by decide : 41 ∈ ([41] : List Nat))))).trans (haA j h)
          have t_33 : a_30 41 = up (a 41) z_27 1 := e_32.trans (up_c rfl (by omega) (by omega))
          refine lv_aload_n hx hb dX13_enemies_49 rfl (lv_at hl 0 rfl) ?_
          refine gf_areEnemies hx hb hj hown hK hP dX13_enemies_50 ?_
          refine lv_bipush (v := iI 12) hx hb dX13_enemies_53 rfl ?_
          refine lv_iload_n hx hb dX13_enemies_55 rfl (lv_at hl 2 rfl) ?_
          refine xr_mul hx hb dX13_enemies_56 ?_
          refine xr_kept (fun z_34 h_35 h_36 => ?_)
          refine lv_iload_n hx hb dX13_enemies_57 rfl (lv_at hl 1 rfl) ?_
          refine xr_add hx hb dX13_enemies_58 ?_
          refine xr_kept (fun z_37 h_38 h_39 => ?_)
          refine lv_iconst (v := iI 1) hx hb dX13_enemies_59 rfl ?_
          refine st_areEnemies hx hb hK hP hD hS hI (by omega) (by omega) (by omega) (by omega) dX13_enemies_60 (fun a_40 H locs e_41 e_42 hI hP hD hS => ?_)
          have haA : ∀ j, j ∉ ([41] : List Nat) → a_40 j = a j := fun j h => (e_41 j (fun q => h (q ▸ (by decide : 41 ∈ ([41] : List Nat))))).trans (haA j h)
          have t_43 : a_40 41 = up (up (a 41) z_27 1) z_37 1 := e_42.trans (up_c t_33 (by omega) (by omega))
          refine lv_iconst (v := iI 1) hx hb dX13_enemies_61 rfl ?_
          rw [← hQ]
          exact W.zret (v := iI 1) (ty := .boolean) hx hb hr (nb_bool (by omega) (by omega)) (fun t ht hW => ⟨⟨iI 1, (g, a_40), rfl, ⟨1, rfl, rfl, hI, haA, by omega, by omega, by show 1 = 1 ∨ a_40 41 = a 41; first | exact Or.inl rfl | exact Or.inr t_43 | exact Or.inr ((t_43).trans (up_c (up_c rfl (by omega) (by omega)) (by omega) (by omega))), by show 1 = 0 ∨ a_40 41 = up (up (a 41) (12 * p1 + p2) 1) (12 * p2 + p1) 1; first | exact Or.inl rfl | exact Or.inr t_43 | exact Or.inr ((t_43).trans (up_c (up_c rfl (by omega) (by omega)) (by omega) (by omega)))⟩, by rw [ht]; exact hP, va_K.moved hW.alike hK, hD⟩, hS.F ht⟩) hS.2.2 dX13_enemies_62
        · refine lv_iconst (v := iI 0) hx hb dX13_enemies_35 rfl ?_
          rw [← hQ]
          exact W.zret (v := iI 0) (ty := .boolean) hx hb hr (nb_bool (by omega) (by omega)) (fun t ht hW => ⟨⟨iI 0, (g, a), rfl, ⟨0, rfl, rfl, hI, haA, by omega, by omega, by show 0 = 1 ∨ a 41 = a 41; first | exact Or.inl rfl | exact Or.inr rfl | exact Or.inr ((rfl).trans (up_c (up_c rfl (by omega) (by omega)) (by omega) (by omega))), by show 0 = 0 ∨ a 41 = up (up (a 41) (12 * p1 + p2) 1) (12 * p2 + p1) 1; first | exact Or.inl rfl | exact Or.inr rfl | exact Or.inr ((rfl).trans (up_c (up_c rfl (by omega) (by omega)) (by omega) (by omega)))⟩, by rw [ht]; exact hP, va_K.moved hW.alike hK, hD⟩, hS.F ht⟩) hS.2.2 dX13_enemies_36
set_option maxHeartbeats 2000000 in
set_option maxRecDepth 100000 in
theorem sX13_near (l : Launch) (dC : Nat → ClassId) (dI : Nat → Nat → Nat) (sz : Nat) (p1 : Int64) : Met l yX13_near (jk yX13_near cX13_near 2 (some .int)) ({ frames := 0, cells := 0, slots := 0, locals := 0 }) (va_Pc [.long p1] (fun U => U.heap.size = sz)) (va_Qi (fun (r : Int32) (_ : Unit) => ∃ z : Int, r = iI z ∧ (rg z)) (fun _ _ => True) (va_A [] sz)) 0 0 (va_A [] sz) := by
  refine Met.ofW (cc := cX13_near) (maxL := 2) (ret := (some .int)) (by decide) rfl ?_
  intro p e s m args below meth c s₁ B hml hv
  obtain ⟨rfl, hsz⟩ := hv
  have hx := B.exec
  have hb := B.bytes
  have hr := B.returns
  have hts := atoms_spec (ws := (jk yX13_near cX13_near 2 (some .int))) B.pre
  have hj : ∀ w ∈ jw, w.before ([.long p1] : List Value).toArray s = true := fun w h => hts w (jm h)
  have hown : s.vm.findClass RX13 = some m.cls := findClass_of_methodNamed B.named
  subst hsz
  have hP : va_P (dC, dI) vwCl [] s.heap := fun k q h => by simp at h
  generalize hAe : (va_A [] s.heap.size) = A
  have hA : ∀ q : Nat, s.heap.size ≤ q → A q := fun q h => by rw [← hAe]; exact Or.inr h
  have hS : va_S A s.heap s.heap [] := va_S.rf
  have hl := lv_entry ([.long p1]) (n := 2) (Nat.le_of_ble_eq_true rfl)
  rw [lg_entry_eq]
  generalize (lg_sl ([.long p1]) ++ List.replicate (2 - (lg_sl ([.long p1])).length) Slot.unset).toArray = ls at hl ⊢
  have hl : lv_has ls 2 [(0, .long p1)] := hl
  generalize hQ : MQ below (va_Qi (fun (r : Int32) (_ : Unit) => ∃ z : Int, r = iI z ∧ (rg z)) (fun _ _ => True) A) ([.long p1] : List Value).toArray s 0 0 A = Q
  suffices ST : ∀ (H : Heap) (locs : List Loc), va_P (dC, dI) vwCl [] H → va_S A s.heap H locs → W p l e ({ frames := 0, cells := 0, slots := 0, locals := 0 }) s m ([.long p1] : List Value).toArray below meth c H locs 0 0 Q (F0 m 0 ls []) from ST _ _ hP hS
  clear hP hS
  intro H locs hP hS
  refine lv_lload_n hx hb dX13_near_0 rfl (lv_at hl 0 rfl) ?_
  refine lv_ldc2 hx hb hown (hts (.constantLong RX13 246 (-1000000)) (jm m_1411)) dX13_near_1 ?_
  refine W.lcmp hx hb dX13_near_4 ?_
  refine xr_any (fun z_1 h_2 => ?_)
  refine xr_if_ge (tgt := 13) hx hb dX13_near_5 (by decide) (by omega) (fun h_3 => ?_) (fun h_3 => ?_)
  · refine lv_lload_n hx hb dX13_near_13 rfl (lv_at hl 0 rfl) ?_
    refine lv_ldc2 hx hb hown (hts (.constantLong RX13 249 1000000) (jm m_1412)) dX13_near_14 ?_
    refine W.lcmp hx hb dX13_near_17 ?_
    refine xr_any (fun z_4 h_5 => ?_)
    refine xr_if_le (tgt := 26) hx hb dX13_near_18 (by decide) (by omega) (fun h_6 => ?_) (fun h_6 => ?_)
    · refine lv_lload_n hx hb dX13_near_26 rfl (lv_at hl 0 rfl) ?_
      refine lv_l2i hx hb dX13_near_27 rfl ?_
      refine xr_any (fun z_7 h_8 => ?_)
      rw [← hQ]
      exact W.iret (v := iI z_7) hx hb hr (fun t ht hW => ⟨⟨iI z_7, (), rfl, ⟨z_7, rfl, by omega⟩, trivial⟩, hS.F ht⟩) hS.2.2 dX13_near_28
    · refine lv_ldc hx hb hown (hts (.constant RX13 251 1000000) (jm m_505)) dX13_near_21 ?_
      refine jt_i (iI 1000000) (by decide) ?_
      refine lv_goto (tgt := 28) hx hb dX13_near_23 (by decide) ?_
      rw [← hQ]
      exact W.iret (v := iI 1000000) hx hb hr (fun t ht hW => ⟨⟨iI 1000000, (), rfl, ⟨1000000, rfl, by omega⟩, trivial⟩, hS.F ht⟩) hS.2.2 dX13_near_28
  · refine lv_ldc hx hb hown (hts (.constant RX13 248 (-1000000)) (jm m_504)) dX13_near_8 ?_
    refine jt_i (iI (-1000000)) (by decide) ?_
    refine lv_goto (tgt := 28) hx hb dX13_near_10 (by decide) ?_
    rw [← hQ]
    exact W.iret (v := iI (-1000000)) hx hb hr (fun t ht hW => ⟨⟨iI (-1000000), (), rfl, ⟨(-1000000), rfl, by omega⟩, trivial⟩, hS.F ht⟩) hS.2.2 dX13_near_28
