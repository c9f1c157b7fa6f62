set_option maxHeartbeats 2000000 in
set_option maxRecDepth 100000 in
theorem sX13_page (l : Launch) (dC : Nat → ClassId) (dI : Nat → Nat → Nat) (sz : Nat) (ad : Nat → Nat) (ca : Nat → ClassId) (g : Nat → Int) (a : Nat → Int → Int) (p1 : Int) (hI : mI g a) (q1 : rg p1) : Met l yX13_page (jk yX13_page cX13_page 2 (some .int)) ({ frames := 2, cells := 0, slots := 0, locals := 43 }) (va_Pc [.ref (ad 0), .int (iI p1)] (jw_P (dC, dI) (mG ad ca g a) (mT ca) sz)) (va_Qi (fun (r : Int32) (_ : Unit) => ∃ z : Int, r = iI z ∧ (rg z)) (fun _ _ => True) (va_A [] sz)) 0 0 (va_A [] sz) := by
  refine Met.ofW (cc := cX13_page) (maxL := 2) (ret := (some .int)) (by decide) rfl ?_
  intro p e s m args below meth c s₁ B hml hv
  obtain ⟨rfl, hsz, hP, hK, hD0⟩ := hv
  have hx := B.exec
  have hb := B.bytes
  have hr := B.returns
  have hts := atoms_spec (ws := (jk yX13_page cX13_page 2 (some .int))) B.pre
  have hj : ∀ w ∈ jw, w.before ([.ref (ad 0), .int (iI p1)] : List Value).toArray s = true := fun w h => hts w (jm h)
  have hown : s.vm.findClass RX13 = some m.cls := findClass_of_methodNamed B.named
  subst hsz
  have hD := hD0
  generalize hAe : (va_A [] s.heap.size) = A
  have hA : ∀ q : Nat, s.heap.size ≤ q → A q := fun q h => by rw [← hAe]; exact Or.inr h
  have hS : va_S A s.heap s.heap [] := va_S.rf
  have hP : va_P (dC, dI) vwCl (mG ad ca g a) s.heap := hP
  have hl := lv_entry ([.ref (ad 0), .int (iI p1)]) (n := 2) (Nat.le_of_ble_eq_true rfl)
  rw [lg_entry_eq]
  generalize (lg_sl ([.ref (ad 0), .int (iI p1)]) ++ List.replicate (2 - (lg_sl ([.ref (ad 0), .int (iI p1)])).length) Slot.unset).toArray = ls at hl ⊢
  have hl : lv_has ls 2 [(0, .ref (ad 0)), (1, .int (iI p1))] := hl
  generalize hQ : MQ below (va_Qi (fun (r : Int32) (_ : Unit) => ∃ z : Int, r = iI z ∧ (rg z)) (fun _ _ => True) A) ([.ref (ad 0), .int (iI p1)] : List Value).toArray s 0 0 A = Q
  suffices ST : ∀ (H : Heap) (locs : List Loc), va_P (dC, dI) vwCl (mG ad ca g a) H → va_S A s.heap H locs → W p l e ({ frames := 2, cells := 0, slots := 0, locals := 43 }) s m ([.ref (ad 0), .int (iI p1)] : List Value).toArray below meth c H locs 0 0 Q (F0 m 0 ls []) from ST _ _ hP hS
  clear hP hS
  intro H locs hP hS
  refine lv_aload_n hx hb dX13_page_0 rfl (lv_at hl 0 rfl) ?_
  refine lv_iload_n hx hb dX13_page_1 rfl (lv_at hl 1 rfl) ?_
  refine jc_i (va_runV (As := [.int (iI p1)]) (rest := []) ⟨hx, hb, hml, hown, hts⟩ (sX13_isEntry l dC dI _ ad ca g a p1 hI (by omega)) (cwV 1 hts (jgoodV m_253 m_378 m_379 m_503 m_155) rfl rfl rfl (by decide +kernel) ⟨(Nat.le_of_ble_eq_true rfl), (Nat.le_of_ble_eq_true rfl)⟩) ⟨jw_blind, va_recv hK hP (ci := 13) (q0 := 0) rfl rfl, fun U hU hW => ⟨rfl, jw_of hU hW hP hK hD⟩⟩ rfl rfl hl.1 rfl (lv_room (Nat.le_of_ble_eq_true rfl)) dX13_page_2 ⟨(Nat.le_of_ble_eq_true rfl), (Nat.le_of_ble_eq_true rfl)⟩) hP hS hA (fun r_1 H locs w_2 hP hS => ?_)
  obtain ⟨z_3, rfl, h_4, h_5⟩ := w_2
  have b_6 : 0 ≤ g 37 ∧ g 37 ≤ 60 := hI.1 37
  refine xr_if_eq (tgt := 17) hx hb dX13_page_5 (by decide) (by omega) (fun h_7 => ?_) (fun h_7 => ?_)
  · refine lv_iconst (v := iI (-1)) hx hb dX13_page_17 rfl ?_
    rw [← hQ]
    exact W.iret (v := iI (-1)) hx hb hr (fun t ht hW => ⟨⟨iI (-1), (), rfl, ⟨(-1), rfl, by omega⟩, trivial⟩, hS.F ht⟩) hS.2.2 dX13_page_18
  · refine lv_aload_n hx hb dX13_page_8 rfl (lv_at hl 0 rfl) ?_
    refine gf_pageOf hx hb hj hown hK hP dX13_page_9 ?_
    refine lv_iload_n hx hb dX13_page_12 rfl (lv_at hl 1 rfl) ?_
    refine ld_pageOf hx hb hK hP hI (by omega) (by omega) dX13_page_13 (fun h_8 => ?_)
    refine lv_goto (tgt := 18) hx hb dX13_page_14 (by decide) ?_
    rw [← hQ]
    exact W.iret (v := iI (a 36 p1)) hx hb hr (fun t ht hW => ⟨⟨iI (a 36 p1), (), rfl, ⟨a 36 p1, rfl, by omega⟩, trivial⟩, hS.F ht⟩) hS.2.2 dX13_page_18
set_option maxHeartbeats 2000000 in
set_option maxRecDepth 100000 in
theorem sX13_tell (l : Launch) (dC : Nat → ClassId) (dI : Nat → Nat → Nat) (sz : Nat) (ad : Nat → Nat) (ca : Nat → ClassId) (g : Nat → Int) (a : Nat → Int → Int) (p1 : Int) (p2 : Int) (p3 : Int) (hI : mI g a) (q1 : rg p1) (q2 : rg p2) (q3 : rg p3) : Met l yX13_tell (jk yX13_tell cX13_tell 4 (some .boolean)) ({ frames := 1, cells := 0, slots := 0, locals := 22 }) (va_Pc [.ref (ad 0), .int (iI p1), .int (iI p2), .int (iI p3)] (jw_P (dC, dI) (mG ad ca g a) (mT ca) sz)) (va_Qi (fun (r : Int32) (u : (Nat → Int) × (Nat → Int → Int)) => ∃ z : Int, r = iI z ∧ (mI u.1 u.2) ∧ (∀ j, j ∉ ([66] : List Nat) → u.1 j = g j) ∧ (∀ j, j ∉ ([51, 52, 53, 54] : List Nat) → u.2 j = a j) ∧ (0 ≤ z ∧ z ≤ 1) ∧ ((z = 0 ∧ u.1 66 = g 66 ∧ ((p1 < 0 ∨ 40 ≤ p1 ∨ p2 < 0 ∨ 999 < p2 ∨ p3 < 0) ∨ g 66 = 600)) ∨ (z = 1 ∧ u.1 66 = g 66 + 1 ∧ 0 ≤ p1 ∧ p1 < 40 ∧ 0 ≤ p2 ∧ p2 ≤ 999 ∧ 0 ≤ p3 ∧ g 66 ≠ 600)) ∧ (z = 1 ∨ u.2 51 = a 51) ∧ (z = 0 ∨ u.2 51 = up (a 51) (g 66) p1) ∧ (z = 1 ∨ u.2 52 = a 52) ∧ (z = 0 ∨ u.2 52 = up (a 52) (g 66) p2) ∧ (z = 1 ∨ u.2 53 = a 53) ∧ (z = 0 ∨ u.2 53 = up (a 53) (g 66) p3) ∧ (z = 1 ∨ u.2 54 = a 54) ∧ (z = 0 ∨ u.2 54 = up (a 54) (g 66) (g 30))) (fun u t => va_P (dC, dI) vwCl (mG ad ca u.1 u.2) t.heap ∧ va_K (dC, dI) vwCl (mT ca) t ∧ va_D (va_A (mG ad ca g a) sz) (mG ad ca u.1 u.2)) (va_A (mG ad ca g a) sz)) 0 0 (va_A (mG ad ca g a) sz) := by
  refine Met.ofW (cc := cX13_tell) (maxL := 4) (ret := (some .boolean)) (by decide) rfl ?_
  intro p e s m args below meth c s₁ B hml hv
  obtain ⟨rfl, hsz, hP, hK, hD0⟩ := hv
  have hx := B.exec
  have hb := B.bytes
  have hr := B.returns
  have hts := atoms_spec (ws := (jk yX13_tell cX13_tell 4 (some .boolean))) B.pre
  have hj : ∀ w ∈ jw, w.before ([.ref (ad 0), .int (iI p1), .int (iI p2), .int (iI p3)] : List Value).toArray s = true := fun w h => hts w (jm h)
  have hown : s.vm.findClass RX13 = some m.cls := findClass_of_methodNamed B.named
  subst hsz
  have hD := hD0.self (sz := s.heap.size)
  generalize hAe : (va_A (mG ad ca g a) s.heap.size) = A at hD ⊢
  have hA : ∀ q : Nat, s.heap.size ≤ q → A q := fun q h => by rw [← hAe]; exact Or.inr h
  have hS : va_S A s.heap s.heap [] := va_S.rf
  have hP : va_P (dC, dI) vwCl (mG ad ca g a) s.heap := hP
  have hfA : ∀ j, j ∉ ([66] : List Nat) → g j = g j := fun _ _ => rfl
  have haA : ∀ j, j ∉ ([51, 52, 53, 54] : List Nat) → a j = a j := fun _ _ => rfl
  have hl := lv_entry ([.ref (ad 0), .int (iI p1), .int (iI p2), .int (iI p3)]) (n := 4) (Nat.le_of_ble_eq_true rfl)
  rw [lg_entry_eq]
  generalize (lg_sl ([.ref (ad 0), .int (iI p1), .int (iI p2), .int (iI p3)]) ++ List.replicate (4 - (lg_sl ([.ref (ad 0), .int (iI p1), .int (iI p2), .int (iI p3)])).length) Slot.unset).toArray = ls at hl ⊢
  have hl : lv_has ls 4 [(0, .ref (ad 0)), (1, .int (iI p1)), (2, .int (iI p2)), (3, .int (iI p3))] := hl
  generalize hQ : MQ below (va_Qi (fun (r : Int32) (u : (Nat → Int) × (Nat → Int → Int)) => ∃ z : Int, r = iI z ∧ (mI u.1 u.2) ∧ (∀ j, j ∉ ([66] : List Nat) → u.1 j = g j) ∧ (∀ j, j ∉ ([51, 52, 53, 54] : List Nat) → u.2 j = a j) ∧ (0 ≤ z ∧ z ≤ 1) ∧ ((z = 0 ∧ u.1 66 = g 66 ∧ ((p1 < 0 ∨ 40 ≤ p1 ∨ p2 < 0 ∨ 999 < p2 ∨ p3 < 0) ∨ g 66 = 600)) ∨ (z = 1 ∧ u.1 66 = g 66 + 1 ∧ 0 ≤ p1 ∧ p1 < 40 ∧ 0 ≤ p2 ∧ p2 ≤ 999 ∧ 0 ≤ p3 ∧ g 66 ≠ 600)) ∧ (z = 1 ∨ u.2 51 = a 51) ∧ (z = 0 ∨ u.2 51 = up (a 51) (g 66) p1) ∧ (z = 1 ∨ u.2 52 = a 52) ∧ (z = 0 ∨ u.2 52 = up (a 52) (g 66) p2) ∧ (z = 1 ∨ u.2 53 = a 53) ∧ (z = 0 ∨ u.2 53 = up (a 53) (g 66) p3) ∧ (z = 1 ∨ u.2 54 = a 54) ∧ (z = 0 ∨ u.2 54 = up (a 54) (g 66) (g 30))) (fun u t => va_P (dC, dI) vwCl (mG ad ca u.1 u.2) t.heap ∧ va_K (dC, dI) vwCl (mT ca) t ∧ va_D A (mG ad ca u.1 u.2)) A) ([.ref (ad 0), .int (iI p1), .int (iI p2), .int (iI p3)] : List Value).toArray s 0 0 A = Q
  suffices ST : ∀ (H : Heap) (locs : List Loc), va_P (dC, dI) vwCl (mG ad ca g a) H → va_S A s.heap H locs → W p l e ({ frames := 1, cells := 0, slots := 0, locals := 22 }) s m ([.ref (ad 0), .int (iI p1), .int (iI p2), .int (iI p3)] : List Value).toArray below meth c H locs 0 0 Q (F0 m 0 ls []) from ST _ _ hP hS
  clear hP hS
  intro H locs hP hS
  have b66_0 : 0 ≤ g 66 ∧ g 66 ≤ 600 := hI.1 66
  refine lv_iload_n hx hb dX13_tell_0 rfl (lv_at hl 1 rfl) ?_
  refine lv_iconst (v := iI 0) hx hb dX13_tell_1 rfl ?_
  refine lv_bipush (v := iI 39) hx hb dX13_tell_2 rfl ?_
  refine jc_i (va_runS (As := [.int (iI p1), .int (iI 0), .int (iI 39)]) (rest := []) ⟨hx, hb, hml, hown, hts⟩ (sX13_in l dC dI _ p1 0 39 (by omega) (by omega) (by omega)) (va_cwS 3 hts (jgoodS m_220 m_364 m_503 m_147) rfl rfl rfl (by decide +kernel) ⟨(Nat.le_of_ble_eq_true rfl), (Nat.le_of_ble_eq_true rfl)⟩) ⟨jw_blind0, fun U hU hW => ⟨rfl, congrArg Array.size hU⟩⟩ rfl rfl hl.1 rfl (lv_room (Nat.le_of_ble_eq_true rfl)) dX13_tell_4 ⟨(Nat.le_of_ble_eq_true rfl), (Nat.le_of_ble_eq_true rfl)⟩) hP hS hA (fun r_1 H locs w_2 hP hS => ?_)
  obtain ⟨z_3, rfl, h_4, h_5⟩ := w_2
  refine xr_if_eq (tgt := 35) hx hb dX13_tell_7 (by decide) (by omega) (fun h_6 => ?_) (fun h_6 => ?_)
  · refine lv_iconst (v := iI 0) hx hb dX13_tell_35 rfl ?_
    rw [← hQ]
    exact W.zret (v := iI 0) (ty := .boolean) hx hb hr (nb_bool (by omega) (by omega)) (fun t ht hW => ⟨⟨iI 0, (g, a), rfl, ⟨0, rfl, hI, hfA, haA, by omega, by show (0 = 0 ∧ g 66 = g 66 ∧ ((p1 < 0 ∨ 40 ≤ p1 ∨ p2 < 0 ∨ 999 < p2 ∨ p3 < 0) ∨ g 66 = 600)) ∨ (0 = 1 ∧ g 66 = g 66 + 1 ∧ 0 ≤ p1 ∧ p1 < 40 ∧ 0 ≤ p2 ∧ p2 ≤ 999 ∧ 0 ≤ p3 ∧ g 66 ≠ 600); omega, by show 0 = 1 ∨ a 51 = a 51; first | exact Or.inl rfl | exact Or.inr rfl, by show 0 = 0 ∨ a 51 = up (a 51) (g 66) p1; first | exact Or.inl rfl | exact Or.inr rfl, by show 0 = 1 ∨ a 52 = a 52; first | exact Or.inl rfl | exact Or.inr rfl, by show 0 = 0 ∨ a 52 = up (a 52) (g 66) p2; first | exact Or.inl rfl | exact Or.inr rfl, by show 0 = 1 ∨ a 53 = a 53; first | exact Or.inl rfl | exact Or.inr rfl, by show 0 = 0 ∨ a 53 = up (a 53) (g 66) p3; first | exact Or.inl rfl | exact Or.inr rfl, by show 0 = 1 ∨ a 54 = a 54; first | exact Or.inl rfl | exact Or.inr rfl, by show 0 = 0 ∨ a 54 = up (a 54) (g 66) (g 30); first | exact Or.inl rfl | exact Or.inr rfl⟩, by rw [ht]; exact hP, va_K.moved hW.alike hK, hD⟩, hS.F ht⟩) hS.2.2 dX13_tell_36
  · refine lv_iload_n hx hb dX13_tell_10 rfl (lv_at hl 2 rfl) ?_
    refine lv_iconst (v := iI 0) hx hb dX13_tell_11 rfl ?_
    refine lv_sipush (v := iI 999) hx hb dX13_tell_12 rfl ?_
    refine jc_i (va_runS (As := [.int (iI p2), .int (iI 0), .int (iI 999)]) (rest := []) ⟨hx, hb, hml, hown, hts⟩ (sX13_in l dC dI _ p2 0 999 (by omega) (by omega) (by omega)) (va_cwS 3 hts (jgoodS m_220 m_364 m_503 m_147) rfl rfl rfl (by decide +kernel) ⟨(Nat.le_of_ble_eq_true rfl), (Nat.le_of_ble_eq_true rfl)⟩) ⟨jw_blind0, fun U hU hW => ⟨rfl, congrArg Array.size hU⟩⟩ rfl rfl hl.1 rfl (lv_room (Nat.le_of_ble_eq_true rfl)) dX13_tell_15 ⟨(Nat.le_of_ble_eq_true rfl), (Nat.le_of_ble_eq_true rfl)⟩) hP hS hA (fun r_7 H locs w_8 hP hS => ?_)
    obtain ⟨z_9, rfl, h_10, h_11⟩ := w_8
    refine xr_if_eq (tgt := 35) hx hb dX13_tell_18 (by decide) (by omega) (fun h_12 => ?_) (fun h_12 => ?_)
    · refine lv_iconst (v := iI 0) hx hb dX13_tell_35 rfl ?_
      rw [← hQ]
      exact W.zret (v := iI 0) (ty := .boolean) hx hb hr (nb_bool (by omega) (by omega)) (fun t ht hW => ⟨⟨iI 0, (g, a), rfl, ⟨0, rfl, hI, hfA, haA, by omega, by show (0 = 0 ∧ g 66 = g 66 ∧ ((p1 < 0 ∨ 40 ≤ p1 ∨ p2 < 0 ∨ 999 < p2 ∨ p3 < 0) ∨ g 66 = 600)) ∨ (0 = 1 ∧ g 66 = g 66 + 1 ∧ 0 ≤ p1 ∧ p1 < 40 ∧ 0 ≤ p2 ∧ p2 ≤ 999 ∧ 0 ≤ p3 ∧ g 66 ≠ 600); omega, by show 0 = 1 ∨ a 51 = a 51; first | exact Or.inl rfl | exact Or.inr rfl, by show 0 = 0 ∨ a 51 = up (a 51) (g 66) p1; first | exact Or.inl rfl | exact Or.inr rfl, by show 0 = 1 ∨ a 52 = a 52; first | exact Or.inl rfl | exact Or.inr rfl, by show 0 = 0 ∨ a 52 = up (a 52) (g 66) p2; first | exact Or.inl rfl | exact Or.inr rfl, by show 0 = 1 ∨ a 53 = a 53; first | exact Or.inl rfl | exact Or.inr rfl, by show 0 = 0 ∨ a 53 = up (a 53) (g 66) p3; first | exact Or.inl rfl | exact Or.inr rfl, by show 0 = 1 ∨ a 54 = a 54; first | exact Or.inl rfl | exact Or.inr rfl, by show 0 = 0 ∨ a 54 = up (a 54) (g 66) (g 30); first | exact Or.inl rfl | exact Or.inr rfl⟩, by rw [ht]; exact hP, va_K.moved hW.alike hK, hD⟩, hS.F ht⟩) hS.2.2 dX13_tell_36
    · refine lv_iload_n hx hb dX13_tell_21 rfl (lv_at hl 3 rfl) ?_
      refine xr_if_lt (tgt := 35) hx hb dX13_tell_22 (by decide) (by omega) (fun h_13 => ?_) (fun h_13 => ?_)
      · refine lv_iconst (v := iI 0) hx hb dX13_tell_35 rfl ?_
        rw [← hQ]
        exact W.zret (v := iI 0) (ty := .boolean) hx hb hr (nb_bool (by omega) (by omega)) (fun t ht hW => ⟨⟨iI 0, (g, a), rfl, ⟨0, rfl, hI, hfA, haA, by omega, by show (0 = 0 ∧ g 66 = g 66 ∧ ((p1 < 0 ∨ 40 ≤ p1 ∨ p2 < 0 ∨ 999 < p2 ∨ p3 < 0) ∨ g 66 = 600)) ∨ (0 = 1 ∧ g 66 = g 66 + 1 ∧ 0 ≤ p1 ∧ p1 < 40 ∧ 0 ≤ p2 ∧ p2 ≤ 999 ∧ 0 ≤ p3 ∧ g 66 ≠ 600); omega, by show 0 = 1 ∨ a 51 = a 51; first | exact Or.inl rfl | exact Or.inr rfl, by show 0 = 0 ∨ a 51 = up (a 51) (g 66) p1; first | exact Or.inl rfl | exact Or.inr rfl, by show 0 = 1 ∨ a 52 = a 52; first | exact Or.inl rfl | exact Or.inr rfl, by show 0 = 0 ∨ a 52 = up (a 52) (g 66) p2; first | exact Or.inl rfl | exact Or.inr rfl, by show 0 = 1 ∨ a 53 = a 53; first | exact Or.inl rfl | exact Or.inr rfl, by show 0 = 0 ∨ a 53 = up (a 53) (g 66) p3; first | exact Or.inl rfl | exact Or.inr rfl, by show 0 = 1 ∨ a 54 = a 54; first | exact Or.inl rfl | exact Or.inr rfl, by show 0 = 0 ∨ a 54 = up (a 54) (g 66) (g 30); first | exact Or.inl rfl | exact Or.inr rfl⟩, by rw [ht]; exact hP, va_K.moved hW.alike hK, hD⟩, hS.F ht⟩) hS.2.2 dX13_tell_36
      · refine lv_aload_n hx hb dX13_tell_25 rfl (lv_at hl 0 rfl) ?_
        refine gf_told hx hb hj hown hK hP hI dX13_tell_26 (fun h_14 => ?_)
        refine lv_sipush (v := iI 600) hx hb dX13_tell_29 rfl ?_
        refine xr_icmp_ne (tgt := 37) hx hb dX13_tell_32 (by decide) (by omega) (by omega) (fun h_15 => ?_) (fun h_15 => ?_)
        · refine lv_aload_n hx hb dX13_tell_37 rfl (lv_at hl 0 rfl) ?_
          refine gf_toldFact hx hb hj hown hK hP dX13_tell_38 ?_
          refine lv_aload_n hx hb dX13_tell_41 rfl (lv_at hl 0 rfl) ?_
          refine gf_told hx hb hj hown hK hP hI dX13_tell_42 (fun h_16 => ?_)
          refine lv_iload_n hx hb dX13_tell_45 rfl (lv_at hl 1 rfl) ?_
          refine st_toldFact hx hb hK hP hD hS hI (by omega) (by omega) (by omega) (by omega) dX13_tell_46 (fun a_17 H locs e_18 e_19 hI hP hD hS => ?_)
          have haA : ∀ j, j ∉ ([51, 52, 53, 54] : List Nat) → a_17 j = a j := fun j h => (e_18 j (fun q => h (q ▸ (by decide : 51 ∈ ([51, 52, 53, 54] : List Nat))))).trans (haA j h)
          have t_20 : a_17 51 = up (a 51) (g 66) p1 := e_19.trans (up_c rfl (by omega) (by omega))
          have t_21 : a_17 52 = a 52 := (e_18 52 (by decide)).trans rfl
          have t_22 : a_17 53 = a 53 := (e_18 53 (by decide)).trans rfl
          have t_23 : a_17 54 = a 54 := (e_18 54 (by decide)).trans rfl
          refine lv_aload_n hx hb dX13_tell_47 rfl (lv_at hl 0 rfl) ?_
          refine gf_toldValue hx hb hj hown hK hP dX13_tell_48 ?_
          refine lv_aload_n hx hb dX13_tell_51 rfl (lv_at hl 0 rfl) ?_
          refine gf_told hx hb hj hown hK hP hI dX13_tell_52 (fun h_24 => ?_)
          refine lv_iload_n hx hb dX13_tell_55 rfl (lv_at hl 2 rfl) ?_
          refine sa_toldValue hx hb hK hP hD hS hI (by omega) (by omega) dX13_tell_56 (fun a_25 z_28 H locs h_29 h_30 e_26 e_27 hI hP hD hS => ?_)
          have haA : ∀ j, j ∉ ([51, 52, 53, 54] : List Nat) → a_25 j = a j := fun j h => (e_26 j (fun q => h (q ▸ (by decide : 52 ∈ ([51, 52, 53, 54] : List Nat))))).trans (haA j h)
          have t_31 : a_25 51 = up (a 51) (g 66) p1 := (e_26 51 (by decide)).trans t_20
          have t_32 : a_25 52 = up (a 52) (g 66) p2 := e_27.trans (up_c t_21 (by omega) (by omega))
          have t_33 : a_25 53 = a 53 := (e_26 53 (by decide)).trans t_22
          have t_34 : a_25 54 = a 54 := (e_26 54 (by decide)).trans t_23
          refine lv_aload_n hx hb dX13_tell_57 rfl (lv_at hl 0 rfl) ?_
          refine gf_toldBy hx hb hj hown hK hP dX13_tell_58 ?_
          refine lv_aload_n hx hb dX13_tell_61 rfl (lv_at hl 0 rfl) ?_
          refine gf_told hx hb hj hown hK hP hI dX13_tell_62 (fun h_35 => ?_)
          refine lv_iload_n hx hb dX13_tell_65 rfl (lv_at hl 3 rfl) ?_
          refine sa_toldBy hx hb hK hP hD hS hI (by omega) (by omega) dX13_tell_66 (fun a_36 z_39 H locs h_40 h_41 e_37 e_38 hI hP hD hS => ?_)
          have haA : ∀ j, j ∉ ([51, 52, 53, 54] : List Nat) → a_36 j = a j := fun j h => (e_37 j (fun q => h (q ▸ (by decide : 53 ∈ ([51, 52, 53, 54] : List Nat))))).trans (haA j h)
          have t_42 : a_36 51 = up (a 51) (g 66) p1 := (e_37 51 (by decide)).trans t_31
          have t_43 : a_36 52 = up (a 52) (g 66) p2 := (e_37 52 (by decide)).trans t_32
          have t_44 : a_36 53 = up (a 53) (g 66) p3 := e_38.trans (up_c t_33 (by omega) (by omega))
          have t_45 : a_36 54 = a 54 := (e_37 54 (by decide)).trans t_34
          refine lv_aload_n hx hb dX13_tell_67 rfl (lv_at hl 0 rfl) ?_
          refine gf_toldIn hx hb hj hown hK hP dX13_tell_68 ?_
          refine lv_aload_n hx hb dX13_tell_71 rfl (lv_at hl 0 rfl) ?_
          refine gf_told hx hb hj hown hK hP hI dX13_tell_72 (fun h_46 => ?_)
          refine lv_aload_n hx hb dX13_tell_75 rfl (lv_at hl 0 rfl) ?_
          refine gf_now hx hb hj hown hK hP hI dX13_tell_76 (fun h_47 => ?_)
          refine st_toldIn hx hb hK hP hD hS hI (by omega) (by omega) (by omega) (by omega) dX13_tell_79 (fun a_48 H locs e_49 e_50 hI hP hD hS => ?_)
          have haA : ∀ j, j ∉ ([51, 52, 53, 54] : List Nat) → a_48 j = a j := fun j h => (e_49 j (fun q => h (q ▸ (by decide : 54 ∈ ([51, 52, 53, 54] : List Nat))))).trans (haA j h)
          have t_51 : a_48 51 = up (a 51) (g 66) p1 := (e_49 51 (by decide)).trans t_42
          have t_52 : a_48 52 = up (a 52) (g 66) p2 := (e_49 52 (by decide)).trans t_43
          have t_53 : a_48 53 = up (a 53) (g 66) p3 := (e_49 53 (by decide)).trans t_44
          have t_54 : a_48 54 = up (a 54) (g 66) (g 30) := e_50.trans (up_c t_45 (by omega) (by omega))
          refine lv_aload_n hx hb dX13_tell_80 rfl (lv_at hl 0 rfl) ?_
          refine lv_dup hx hb dX13_tell_81 rfl ?_
          refine gf_told hx hb hj hown hK hP hI dX13_tell_82 (fun h_55 => ?_)
          refine lv_iconst (v := iI 1) hx hb dX13_tell_85 rfl ?_
          refine xr_add hx hb dX13_tell_86 ?_
          refine pf_told hx hb hj hown hK hP hD hS hI (by omega) (by omega) dX13_tell_87 (fun g_56 H locs e_57 e_58 hI hP hD hS => ?_)
          have hfA : ∀ j, j ∉ ([66] : List Nat) → g_56 j = g j := fun j h => (e_57 j (fun q => h (q ▸ (by decide : 66 ∈ ([66] : List Nat))))).trans (hfA j h)
          have b_59 : g_56 30 = g 30 := hfA 30 (by decide)
          refine lv_iconst (v := iI 1) hx hb dX13_tell_90 rfl ?_
          rw [← hQ]
          exact W.zret (v := iI 1) (ty := .boolean) hx hb hr (nb_bool (by omega) (by omega)) (fun t ht hW => ⟨⟨iI 1, (g_56, a_48), rfl, ⟨1, rfl, hI, hfA, haA, by omega, by show (1 = 0 ∧ g_56 66 = g 66 ∧ ((p1 < 0 ∨ 40 ≤ p1 ∨ p2 < 0 ∨ 999 < p2 ∨ p3 < 0) ∨ g 66 = 600)) ∨ (1 = 1 ∧ g_56 66 = g 66 + 1 ∧ 0 ≤ p1 ∧ p1 < 40 ∧ 0 ≤ p2 ∧ p2 ≤ 999 ∧ 0 ≤ p3 ∧ g 66 ≠ 600); omega, by show 1 = 1 ∨ a_48 51 = a 51; first | exact Or.inl rfl | exact Or.inr t_51, by show 1 = 0 ∨ a_48 51 = up (a 51) (g 66) p1; first | exact Or.inl rfl | exact Or.inr t_51, by show 1 = 1 ∨ a_48 52 = a 52; first | exact Or.inl rfl | exact Or.inr t_52, by show 1 = 0 ∨ a_48 52 = up (a 52) (g 66) p2; first | exact Or.inl rfl | exact Or.inr t_52, by show 1 = 1 ∨ a_48 53 = a 53; first | exact Or.inl rfl | exact Or.inr t_53, by show 1 = 0 ∨ a_48 53 = up (a 53) (g 66) p3; first | exact Or.inl rfl | exact Or.inr t_53, by show 1 = 1 ∨ a_48 54 = a 54; first | exact Or.inl rfl | exact Or.inr t_54, by show 1 = 0 ∨ a_48 54 = up (a 54) (g 66) (g 30); first | exact Or.inl rfl | exact Or.inr t_54⟩, by rw [ht]; exact hP, va_K.moved hW.alike hK, hD⟩, hS.F ht⟩) hS.2.2 dX13_tell_91
        · refine lv_iconst (v := iI 0) hx hb dX13_tell_35 rfl ?_
          rw [← hQ]
          exact W.zret (v := iI 0) (ty := .boolean) hx hb hr (nb_bool (by omega) (by omega)) (fun t ht hW => ⟨⟨iI 0, (g, a), rfl, ⟨0, rfl, hI, hfA, haA, by omega, by show (0 = 0 ∧ g 66 = g 66 ∧ ((p1 < 0 ∨ 40 ≤ p1 ∨ p2 < 0 ∨ 999 < p2 ∨ p3 < 0) ∨ g 66 = 600)) ∨ (0 = 1 ∧ g 66 = g 66 + 1 ∧ 0 ≤ p1 ∧ p1 < 40 ∧ 0 ≤ p2 ∧ p2 ≤ 999 ∧ 0 ≤ p3 ∧ g 66 ≠ 600); omega, by show 0 = 1 ∨ a 51 = a 51; first | exact Or.inl rfl | exact Or.inr rfl, by show 0 = 0 ∨ a 51 = up (a 51) (g 66) p1; first | exact Or.inl rfl | exact Or.inr rfl, by show 0 = 1 ∨ a 52 = a 52; first | exact Or.inl rfl | exact Or.inr rfl, by show 0 = 0 ∨ a 52 = up (a 52) (g 66) p2; first | exact Or.inl rfl | exact Or.inr rfl, by show 0 = 1 ∨ a 53 = a 53; first | exact Or.inl rfl | exact Or.inr rfl, by show 0 = 0 ∨ a 53 = up (a 53) (g 66) p3; first | exact Or.inl rfl | exact Or.inr rfl, by show 0 = 1 ∨ a 54 = a 54; first | exact Or.inl rfl | exact Or.inr rfl, by show 0 = 0 ∨ a 54 = up (a 54) (g 66) (g 30); first | exact Or.inl rfl | exact Or.inr rfl⟩, by rw [ht]; exact hP, va_K.moved hW.alike hK, hD⟩, hS.F ht⟩) hS.2.2 dX13_tell_36
set_option maxHeartbeats 2000000 in
set_option maxRecDepth 100000 in
theorem sX13_known (l : Launch) (dC : Nat → ClassId) (dI : Nat → Nat → Nat) (sz : Nat) (ad : Nat → Nat) (ca : Nat → ClassId) (g : Nat → Int) (a : Nat → Int → Int) (p1 : Int) (p2 : Int) (p3 : Int) (hI : mI g a) (q1 : rg p1) (q2 : rg p2) (q3 : rg p3) : Met l yX13_known (jk yX13_known cX13_known 5 (some .int)) ({ frames := 1, cells := 0, slots := 0, locals := 23 }) (va_Pc [.ref (ad 0), .int (iI p1), .int (iI p2), .int (iI p3)] (jw_P (dC, dI) (mG ad ca g a) (mT ca) sz)) (va_Qi (fun (r : Int32) (_ : Unit) => ∃ z : Int, r = iI z ∧ (rg z) ∧ ((0 ≤ p1 ∧ p1 < 40 ∧ 0 ≤ p2 ∧ p2 ≤ 2000 ∧ p3 = 0) → z = kat (a 52) (knw (a 51) (a 54) p1 p2 (g 66).toNat)) ∧ ((0 ≤ p1 ∧ p1 < 40 ∧ 0 ≤ p2 ∧ p2 ≤ 2000 ∧ p3 = 1) → z = kat (a 53) (knw (a 51) (a 54) p1 p2 (g 66).toNat)) ∧ ((p1 < 0 ∨ 40 ≤ p1 ∨ p2 < 0 ∨ 2000 < p2 ∨ (p3 ≠ 0 ∧ p3 ≠ 1)) → z = -1)) (fun _ _ => True) (va_A [] sz)) 0 0 (va_A [] sz) := by
  refine Met.ofW (cc := cX13_known) (maxL := 5) (ret := (some .int)) (by decide) rfl ?_
  intro p e s m args below meth c s₁ B hml hv
  obtain ⟨rfl, hsz, hP, hK, hD0⟩ := hv
  have hx := B.exec
  have hb := B.bytes
  have hr := B.returns
  have hts := atoms_spec (ws := (jk yX13_known cX13_known 5 (some .int))) B.pre
  have hj : ∀ w ∈ jw, w.before ([.ref (ad 0), .int (iI p1), .int (iI p2), .int (iI p3)] : List Value).toArray s = true := fun w h => hts w (jm h)
  have hown : s.vm.findClass RX13 = some m.cls := findClass_of_methodNamed B.named
  subst hsz
  have hD := hD0
  generalize hAe : (va_A [] s.heap.size) = A
  have hA : ∀ q : Nat, s.heap.size ≤ q → A q := fun q h => by rw [← hAe]; exact Or.inr h
  have hS : va_S A s.heap s.heap [] := va_S.rf
  have hP : va_P (dC, dI) vwCl (mG ad ca g a) s.heap := hP
  have hl := lv_entry ([.ref (ad 0), .int (iI p1), .int (iI p2), .int (iI p3)]) (n := 5) (Nat.le_of_ble_eq_true rfl)
  rw [lg_entry_eq]
  generalize (lg_sl ([.ref (ad 0), .int (iI p1), .int (iI p2), .int (iI p3)]) ++ List.replicate (5 - (lg_sl ([.ref (ad 0), .int (iI p1), .int (iI p2), .int (iI p3)])).length) Slot.unset).toArray = ls at hl ⊢
  have hl : lv_has ls 5 [(0, .ref (ad 0)), (1, .int (iI p1)), (2, .int (iI p2)), (3, .int (iI p3))] := hl
  generalize hQ : MQ below (va_Qi (fun (r : Int32) (_ : Unit) => ∃ z : Int, r = iI z ∧ (rg z) ∧ ((0 ≤ p1 ∧ p1 < 40 ∧ 0 ≤ p2 ∧ p2 ≤ 2000 ∧ p3 = 0) → z = kat (a 52) (knw (a 51) (a 54) p1 p2 (g 66).toNat)) ∧ ((0 ≤ p1 ∧ p1 < 40 ∧ 0 ≤ p2 ∧ p2 ≤ 2000 ∧ p3 = 1) → z = kat (a 53) (knw (a 51) (a 54) p1 p2 (g 66).toNat)) ∧ ((p1 < 0 ∨ 40 ≤ p1 ∨ p2 < 0 ∨ 2000 < p2 ∨ (p3 ≠ 0 ∧ p3 ≠ 1)) → z = -1)) (fun _ _ => True) A) ([.ref (ad 0), .int (iI p1), .int (iI p2), .int (iI p3)] : List Value).toArray s 0 0 A = Q
  suffices ST : ∀ (H : Heap) (locs : List Loc), va_P (dC, dI) vwCl (mG ad ca g a) H → va_S A s.heap H locs → W p l e ({ frames := 1, cells := 0, slots := 0, locals := 23 }) s m ([.ref (ad 0), .int (iI p1), .int (iI p2), .int (iI p3)] : List Value).toArray below meth c H locs 0 0 Q (F0 m 0 ls []) from ST _ _ hP hS
  clear hP hS
  intro H locs hP hS
  refine lv_iload_n hx hb dX13_known_0 rfl (lv_at hl 1 rfl) ?_
  refine lv_iconst (v := iI 0) hx hb dX13_known_1 rfl ?_
  refine lv_bipush (v := iI 39) hx hb dX13_known_2 rfl ?_
  refine jc_i (va_runS (As := [.int (iI p1), .int (iI 0), .int (iI 39)]) (rest := []) ⟨hx, hb, hml, hown, hts⟩ (sX13_in l dC dI _ p1 0 39 (by omega) (by omega) (by omega)) (va_cwS 3 hts (jgoodS m_220 m_364 m_503 m_147) rfl rfl rfl (by decide +kernel) ⟨(Nat.le_of_ble_eq_true rfl), (Nat.le_of_ble_eq_true rfl)⟩) ⟨jw_blind0, fun U hU hW => ⟨rfl, congrArg Array.size hU⟩⟩ rfl rfl hl.1 rfl (lv_room (Nat.le_of_ble_eq_true rfl)) dX13_known_4 ⟨(Nat.le_of_ble_eq_true rfl), (Nat.le_of_ble_eq_true rfl)⟩) hP hS hA (fun r_1 H locs w_2 hP hS => ?_)
  obtain ⟨z_3, rfl, h_4, h_5⟩ := w_2
  refine xr_if_eq (tgt := 30) hx hb dX13_known_7 (by decide) (by omega) (fun h_6 => ?_) (fun h_6 => ?_)
  · refine lv_iconst (v := iI (-1)) hx hb dX13_known_30 rfl ?_
    rw [← hQ]
    exact W.iret (v := iI (-1)) hx hb hr (fun t ht hW => ⟨⟨iI (-1), (), rfl, ⟨(-1), rfl, by omega, by show (0 ≤ p1 ∧ p1 < 40 ∧ 0 ≤ p2 ∧ p2 ≤ 2000 ∧ p3 = 0) → (-1) = kat (a 52) (knw (a 51) (a 54) p1 p2 (g 66).toNat); intro h9; first | (exfalso; omega) | (rw [← show _ = knw (a 51) (a 54) p1 p2 (g 66).toNat by assumption]; first | exact (kat_no (by omega)).symm | exact (kat_at (by omega)).symm), by show (0 ≤ p1 ∧ p1 < 40 ∧ 0 ≤ p2 ∧ p2 ≤ 2000 ∧ p3 = 1) → (-1) = kat (a 53) (knw (a 51) (a 54) p1 p2 (g 66).toNat); intro h9; first | (exfalso; omega) | (rw [← show _ = knw (a 51) (a 54) p1 p2 (g 66).toNat by assumption]; first | exact (kat_no (by omega)).symm | exact (kat_at (by omega)).symm), by show (p1 < 0 ∨ 40 ≤ p1 ∨ p2 < 0 ∨ 2000 < p2 ∨ (p3 ≠ 0 ∧ p3 ≠ 1)) → (-1) = -1; intro h9; first | (exfalso; omega) | omega⟩, trivial⟩, hS.F ht⟩) hS.2.2 dX13_known_31
  · refine lv_iload_n hx hb dX13_known_10 rfl (lv_at hl 2 rfl) ?_
    refine lv_iconst (v := iI 0) hx hb dX13_known_11 rfl ?_
    refine lv_sipush (v := iI 2000) hx hb dX13_known_12 rfl ?_
    refine jc_i (va_runS (As := [.int (iI p2), .int (iI 0), .int (iI 2000)]) (rest := []) ⟨hx, hb, hml, hown, hts⟩ (sX13_in l dC dI _ p2 0 2000 (by omega) (by omega) (by omega)) (va_cwS 3 hts (jgoodS m_220 m_364 m_503 m_147) rfl rfl rfl (by decide +kernel) ⟨(Nat.le_of_ble_eq_true rfl), (Nat.le_of_ble_eq_true rfl)⟩) ⟨jw_blind0, fun U hU hW => ⟨rfl, congrArg Array.size hU⟩⟩ rfl rfl hl.1 rfl (lv_room (Nat.le_of_ble_eq_true rfl)) dX13_known_15 ⟨(Nat.le_of_ble_eq_true rfl), (Nat.le_of_ble_eq_true rfl)⟩) hP hS hA (fun r_7 H locs w_8 hP hS => ?_)
    obtain ⟨z_9, rfl, h_10, h_11⟩ := w_8
    refine xr_if_eq (tgt := 30) hx hb dX13_known_18 (by decide) (by omega) (fun h_12 => ?_) (fun h_12 => ?_)
    · refine lv_iconst (v := iI (-1)) hx hb dX13_known_30 rfl ?_
      rw [← hQ]
      exact W.iret (v := iI (-1)) hx hb hr (fun t ht hW => ⟨⟨iI (-1), (), rfl, ⟨(-1), rfl, by omega, by show (0 ≤ p1 ∧ p1 < 40 ∧ 0 ≤ p2 ∧ p2 ≤ 2000 ∧ p3 = 0) → (-1) = kat (a 52) (knw (a 51) (a 54) p1 p2 (g 66).toNat); intro h9; first | (exfalso; omega) | (rw [← show _ = knw (a 51) (a 54) p1 p2 (g 66).toNat by assumption]; first | exact (kat_no (by omega)).symm | exact (kat_at (by omega)).symm), by show (0 ≤ p1 ∧ p1 < 40 ∧ 0 ≤ p2 ∧ p2 ≤ 2000 ∧ p3 = 1) → (-1) = kat (a 53) (knw (a 51) (a 54) p1 p2 (g 66).toNat); intro h9; first | (exfalso; omega) | (rw [← show _ = knw (a 51) (a 54) p1 p2 (g 66).toNat by assumption]; first | exact (kat_no (by omega)).symm | exact (kat_at (by omega)).symm), by show (p1 < 0 ∨ 40 ≤ p1 ∨ p2 < 0 ∨ 2000 < p2 ∨ (p3 ≠ 0 ∧ p3 ≠ 1)) → (-1) = -1; intro h9; first | (exfalso; omega) | omega⟩, trivial⟩, hS.F ht⟩) hS.2.2 dX13_known_31
    · refine lv_iload_n hx hb dX13_known_21 rfl (lv_at hl 3 rfl) ?_
      refine lv_iconst (v := iI 0) hx hb dX13_known_22 rfl ?_
      refine lv_iconst (v := iI 1) hx hb dX13_known_23 rfl ?_
      refine jc_i (va_runS (As := [.int (iI p3), .int (iI 0), .int (iI 1)]) (rest := []) ⟨hx, hb, hml, hown, hts⟩ (sX13_in l dC dI _ p3 0 1 (by omega) (by omega) (by omega)) (va_cwS 3 hts (jgoodS m_220 m_364 m_503 m_147) rfl rfl rfl (by decide +kernel) ⟨(Nat.le_of_ble_eq_true rfl), (Nat.le_of_ble_eq_true rfl)⟩) ⟨jw_blind0, fun U hU hW => ⟨rfl, congrArg Array.size hU⟩⟩ rfl rfl hl.1 rfl (lv_room (Nat.le_of_ble_eq_true rfl)) dX13_known_24 ⟨(Nat.le_of_ble_eq_true rfl), (Nat.le_of_ble_eq_true rfl)⟩) hP hS hA (fun r_13 H locs w_14 hP hS => ?_)
      obtain ⟨z_15, rfl, h_16, h_17⟩ := w_14
      refine xr_if_ne (tgt := 32) hx hb dX13_known_27 (by decide) (by omega) (fun h_18 => ?_) (fun h_18 => ?_)
      · refine lv_aload_n hx hb dX13_known_32 rfl (lv_at hl 0 rfl) ?_
        refine lv_iload_n hx hb dX13_known_33 rfl (lv_at hl 1 rfl) ?_
        refine lv_iload_n hx hb dX13_known_34 rfl (lv_at hl 2 rfl) ?_
        refine jc_i (va_runV (As := [.int (iI p1), .int (iI p2)]) (rest := []) ⟨hx, hb, hml, hown, hts⟩ (sX13_knownOf l dC dI _ ad ca g a p1 p2 hI (by omega) (by omega)) (cwV 2 hts (jgoodV m_269 m_404 m_405 m_503 m_169) rfl rfl rfl (by decide +kernel) ⟨(Nat.le_of_ble_eq_true rfl), (Nat.le_of_ble_eq_true rfl)⟩) ⟨jw_blind, va_recv hK hP (ci := 13) (q0 := 0) rfl rfl, fun U hU hW => ⟨rfl, jw_of hU hW hP hK hD⟩⟩ rfl rfl hl.1 rfl (lv_room (Nat.le_of_ble_eq_true rfl)) dX13_known_35 ⟨(Nat.le_of_ble_eq_true rfl), (Nat.le_of_ble_eq_true rfl)⟩) hP hS hA (fun r_19 H locs w_20 hP hS => ?_)
        obtain ⟨z_21, rfl, h_22, h_23⟩ := w_20
        have b_24 : 0 ≤ g 66 ∧ g 66 ≤ 600 := hI.1 66
        refine lv_istore (lv' := [(4, .int (iI z_21)), (0, .ref (ad 0)), (1, .int (iI p1)), (2, .int (iI p2)), (3, .int (iI p3))]) hx hb dX13_known_38 hl (by decide) rfl (fun ls hl => ?_)
        refine lv_iload hx hb dX13_known_40 (lv_at hl 0 rfl) ?_
        refine lv_iconst (v := iI (-1)) hx hb dX13_known_42 rfl ?_
        refine xr_icmp_ne (tgt := 50) hx hb dX13_known_43 (by decide) (by omega) (by omega) (fun h_25 => ?_) (fun h_25 => ?_)
        · refine lv_iload_n hx hb dX13_known_50 rfl (lv_at hl 4 rfl) ?_
          refine xr_if_ne (tgt := 64) hx hb dX13_known_51 (by decide) (by omega) (fun h_26 => ?_) (fun h_26 => ?_)
          · refine lv_aload_n hx hb dX13_known_64 rfl (lv_at hl 1 rfl) ?_
            refine gf_toldBy hx hb hj hown hK hP dX13_known_65 ?_
            refine lv_iload hx hb dX13_known_68 (lv_at hl 0 rfl) ?_
            refine ld_toldBy hx hb hK hP hI (by omega) (by omega) dX13_known_70 (fun h_27 => ?_)
            rw [← hQ]
            exact W.iret (v := iI (a 53 z_21)) hx hb hr (fun t ht hW => ⟨⟨iI (a 53 z_21), (), rfl, ⟨a 53 z_21, rfl, by omega, by show (0 ≤ p1 ∧ p1 < 40 ∧ 0 ≤ p2 ∧ p2 ≤ 2000 ∧ p3 = 0) → (a 53 z_21) = kat (a 52) (knw (a 51) (a 54) p1 p2 (g 66).toNat); intro h9; first | (exfalso; omega) | (rw [← show z_21 = knw (a 51) (a 54) p1 p2 (g 66).toNat by assumption]; first | exact (kat_no (by omega)).symm | exact (kat_at (by omega)).symm), by show (0 ≤ p1 ∧ p1 < 40 ∧ 0 ≤ p2 ∧ p2 ≤ 2000 ∧ p3 = 1) → (a 53 z_21) = kat (a 53) (knw (a 51) (a 54) p1 p2 (g 66).toNat); intro h9; first | (exfalso; omega) | (rw [← show z_21 = knw (a 51) (a 54) p1 p2 (g 66).toNat by assumption]; first | exact (kat_no (by omega)).symm | exact (kat_at (by omega)).symm), by show (p1 < 0 ∨ 40 ≤ p1 ∨ p2 < 0 ∨ 2000 < p2 ∨ (p3 ≠ 0 ∧ p3 ≠ 1)) → (a 53 z_21) = -1; intro h9; first | (exfalso; omega) | omega⟩, trivial⟩, hS.F ht⟩) hS.2.2 dX13_known_71
          · refine lv_aload_n hx hb dX13_known_54 rfl (lv_at hl 1 rfl) ?_
            refine gf_toldValue hx hb hj hown hK hP dX13_known_55 ?_
            refine lv_iload hx hb dX13_known_58 (lv_at hl 0 rfl) ?_
            refine ld_toldValue hx hb hK hP hI (by omega) (by omega) dX13_known_60 (fun h_28 => ?_)
            refine lv_goto (tgt := 71) hx hb dX13_known_61 (by decide) ?_
            rw [← hQ]
            exact W.iret (v := iI (a 52 z_21)) hx hb hr (fun t ht hW => ⟨⟨iI (a 52 z_21), (), rfl, ⟨a 52 z_21, rfl, by omega, by show (0 ≤ p1 ∧ p1 < 40 ∧ 0 ≤ p2 ∧ p2 ≤ 2000 ∧ p3 = 0) → (a 52 z_21) = kat (a 52) (knw (a 51) (a 54) p1 p2 (g 66).toNat); intro h9; first | (exfalso; omega) | (rw [← show z_21 = knw (a 51) (a 54) p1 p2 (g 66).toNat by assumption]; first | exact (kat_no (by omega)).symm | exact (kat_at (by omega)).symm), by show (0 ≤ p1 ∧ p1 < 40 ∧ 0 ≤ p2 ∧ p2 ≤ 2000 ∧ p3 = 1) → (a 52 z_21) = kat (a 53) (knw (a 51) (a 54) p1 p2 (g 66).toNat); intro h9; first | (exfalso; omega) | (rw [← show z_21 = knw (a 51) (a 54) p1 p2 (g 66).toNat by assumption]; first | exact (kat_no (by omega)).symm | exact (kat_at (by omega)).symm), by show (p1 < 0 ∨ 40 ≤ p1 ∨ p2 < 0 ∨ 2000 < p2 ∨ (p3 ≠ 0 ∧ p3 ≠ 1)) → (a 52 z_21) = -1; intro h9; first | (exfalso; omega) | omega⟩, trivial⟩, hS.F ht⟩) hS.2.2 dX13_known_71
        · refine lv_iconst (v := iI (-1)) hx hb dX13_known_46 rfl ?_
          refine lv_goto (tgt := 71) hx hb dX13_known_47 (by decide) ?_
          rw [← hQ]
          exact W.iret (v := iI (-1)) hx hb hr (fun t ht hW => ⟨⟨iI (-1), (), rfl, ⟨(-1), rfl, by omega, by show (0 ≤ p1 ∧ p1 < 40 ∧ 0 ≤ p2 ∧ p2 ≤ 2000 ∧ p3 = 0) → (-1) = kat (a 52) (knw (a 51) (a 54) p1 p2 (g 66).toNat); intro h9; first | (exfalso; omega) | (rw [← show z_21 = knw (a 51) (a 54) p1 p2 (g 66).toNat by assumption]; first | exact (kat_no (by omega)).symm | exact (kat_at (by omega)).symm), by show (0 ≤ p1 ∧ p1 < 40 ∧ 0 ≤ p2 ∧ p2 ≤ 2000 ∧ p3 = 1) → (-1) = kat (a 53) (knw (a 51) (a 54) p1 p2 (g 66).toNat); intro h9; first | (exfalso; omega) | (rw [← show z_21 = knw (a 51) (a 54) p1 p2 (g 66).toNat by assumption]; first | exact (kat_no (by omega)).symm | exact (kat_at (by omega)).symm), by show (p1 < 0 ∨ 40 ≤ p1 ∨ p2 < 0 ∨ 2000 < p2 ∨ (p3 ≠ 0 ∧ p3 ≠ 1)) → (-1) = -1; intro h9; first | (exfalso; omega) | omega⟩, trivial⟩, hS.F ht⟩) hS.2.2 dX13_known_71
      · refine lv_iconst (v := iI (-1)) hx hb dX13_known_30 rfl ?_
        rw [← hQ]
        exact W.iret (v := iI (-1)) hx hb hr (fun t ht hW => ⟨⟨iI (-1), (), rfl, ⟨(-1), rfl, by omega, by show (0 ≤ p1 ∧ p1 < 40 ∧ 0 ≤ p2 ∧ p2 ≤ 2000 ∧ p3 = 0) → (-1) = kat (a 52) (knw (a 51) (a 54) p1 p2 (g 66).toNat); intro h9; first | (exfalso; omega) | (rw [← show _ = knw (a 51) (a 54) p1 p2 (g 66).toNat by assumption]; first | exact (kat_no (by omega)).symm | exact (kat_at (by omega)).symm), by show (0 ≤ p1 ∧ p1 < 40 ∧ 0 ≤ p2 ∧ p2 ≤ 2000 ∧ p3 = 1) → (-1) = kat (a 53) (knw (a 51) (a 54) p1 p2 (g 66).toNat); intro h9; first | (exfalso; omega) | (rw [← show _ = knw (a 51) (a 54) p1 p2 (g 66).toNat by assumption]; first | exact (kat_no (by omega)).symm | exact (kat_at (by omega)).symm), by show (p1 < 0 ∨ 40 ≤ p1 ∨ p2 < 0 ∨ 2000 < p2 ∨ (p3 ≠ 0 ∧ p3 ≠ 1)) → (-1) = -1; intro h9; first | (exfalso; omega) | omega⟩, trivial⟩, hS.F ht⟩) hS.2.2 dX13_known_31
set_option maxHeartbeats 2000000 in
set_option maxRecDepth 100000 in
theorem sX13_force (l : Launch) (dC : Nat → ClassId) (dI : Nat → Nat → Nat) (sz : Nat) (ad : Nat → Nat) (ca : Nat → ClassId) (g : Nat → Int) (a : Nat → Int → Int) (p1 : Int) (p2 : Int) (hI : mI g a) (q1 : rg p1) (q2 : rg p2) (hrSh : rSh g a) : Met l yX13_force (jk yX13_force cX13_force 3 (some .int)) ({ frames := 2, cells := 0, slots := 0, locals := 42 }) (va_Pc [.ref (ad 0), .int (iI p1), .int (iI p2)] (jw_P (dC, dI) (mG ad ca g a) (mT ca) sz)) (va_Qi (fun (r : Int32) (u : (Nat → Int) × (Nat → Int → Int)) => ∃ z : Int, r = iI z ∧ (mI u.1 u.2) ∧ (∀ j, j ∉ ([26] : List Nat) → u.1 j = g j) ∧ (∀ j, j ∉ ([16, 17, 18] : List Nat) → u.2 j = a j) ∧ (rg z) ∧ (rSh u.1 u.2)) (fun u t => va_P (dC, dI) vwCl (mG ad ca u.1 u.2) t.heap ∧ va_K (dC, dI) vwCl (mT ca) t ∧ va_D (va_A (mG ad ca g a) sz) (mG ad ca u.1 u.2)) (va_A (mG ad ca g a) sz)) 0 0 (va_A (mG ad ca g a) sz) := by
  refine Met.ofW (cc := cX13_force) (maxL := 3) (ret := (some .int)) (by decide) rfl ?_
  intro p e s m args below meth c s₁ B hml hv
  obtain ⟨rfl, hsz, hP, hK, hD0⟩ := hv
  have hx := B.exec
  have hb := B.bytes
  have hr := B.returns
  have hts := atoms_spec (ws := (jk yX13_force cX13_force 3 (some .int))) B.pre
  have hj : ∀ w ∈ jw, w.before ([.ref (ad 0), .int (iI p1), .int (iI p2)] : List Value).toArray s = true := fun w h => hts w (jm h)
  have hown : s.vm.findClass RX13 = some m.cls := findClass_of_methodNamed B.named
  subst hsz
  have hD := hD0.self (sz := s.heap.size)
  generalize hAe : (va_A (mG ad ca g a) s.heap.size) = A at hD ⊢
  have hA : ∀ q : Nat, s.heap.size ≤ q → A q := fun q h => by rw [← hAe]; exact Or.inr h
  have hS : va_S A s.heap s.heap [] := va_S.rf
  have hP : va_P (dC, dI) vwCl (mG ad ca g a) s.heap := hP
  have hfA : ∀ j, j ∉ ([26] : List Nat) → g j = g j := fun _ _ => rfl
  have haA : ∀ j, j ∉ ([16, 17, 18] : List Nat) → a j = a j := fun _ _ => rfl
  have hl := lv_entry ([.ref (ad 0), .int (iI p1), .int (iI p2)]) (n := 3) (Nat.le_of_ble_eq_true rfl)
  rw [lg_entry_eq]
  generalize (lg_sl ([.ref (ad 0), .int (iI p1), .int (iI p2)]) ++ List.replicate (3 - (lg_sl ([.ref (ad 0), .int (iI p1), .int (iI p2)])).length) Slot.unset).toArray = ls at hl ⊢
  have hl : lv_has ls 3 [(0, .ref (ad 0)), (1, .int (iI p1)), (2, .int (iI p2))] := hl
  generalize hQ : MQ below (va_Qi (fun (r : Int32) (u : (Nat → Int) × (Nat → Int → Int)) => ∃ z : Int, r = iI z ∧ (mI u.1 u.2) ∧ (∀ j, j ∉ ([26] : List Nat) → u.1 j = g j) ∧ (∀ j, j ∉ ([16, 17, 18] : List Nat) → u.2 j = a j) ∧ (rg z) ∧ (rSh u.1 u.2)) (fun u t => va_P (dC, dI) vwCl (mG ad ca u.1 u.2) t.heap ∧ va_K (dC, dI) vwCl (mT ca) t ∧ va_D A (mG ad ca u.1 u.2)) A) ([.ref (ad 0), .int (iI p1), .int (iI p2)] : List Value).toArray s 0 0 A = Q
  suffices ST : ∀ (H : Heap) (locs : List Loc), va_P (dC, dI) vwCl (mG ad ca g a) H → va_S A s.heap H locs → W p l e ({ frames := 2, cells := 0, slots := 0, locals := 42 }) s m ([.ref (ad 0), .int (iI p1), .int (iI p2)] : List Value).toArray below meth c H locs 0 0 Q (F0 m 0 ls []) from ST _ _ hP hS
  clear hP hS
  intro H locs hP hS
  refine lv_iload_n hx hb dX13_force_0 rfl (lv_at hl 1 rfl) ?_
  refine lv_iconst (v := iI 0) hx hb dX13_force_1 rfl ?_
  refine lv_aload_n hx hb dX13_force_2 rfl (lv_at hl 0 rfl) ?_
  refine gf_sheets hx hb hj hown hK hP hI dX13_force_3 (fun h_1 => ?_)
  refine lv_iconst (v := iI 1) hx hb dX13_force_6 rfl ?_
  refine xr_sub hx hb dX13_force_7 ?_
  refine jc_i (va_runS (As := [.int (iI p1), .int (iI 0), .int (iI ((g 18) - 1))]) (rest := []) ⟨hx, hb, hml, hown, hts⟩ (sX13_in l dC dI _ p1 0 ((g 18) - 1) (by omega) (by omega) (by omega)) (va_cwS 3 hts (jgoodS m_220 m_364 m_503 m_147) rfl rfl rfl (by decide +kernel) ⟨(Nat.le_of_ble_eq_true rfl), (Nat.le_of_ble_eq_true rfl)⟩) ⟨jw_blind0, fun U hU hW => ⟨rfl, congrArg Array.size hU⟩⟩ rfl rfl hl.1 rfl (lv_room (Nat.le_of_ble_eq_true rfl)) dX13_force_8 ⟨(Nat.le_of_ble_eq_true rfl), (Nat.le_of_ble_eq_true rfl)⟩) hP hS hA (fun r_2 H locs w_3 hP hS => ?_)
  obtain ⟨z_4, rfl, h_5, h_6⟩ := w_3
  refine xr_if_eq (tgt := 44) hx hb dX13_force_11 (by decide) (by omega) (fun h_7 => ?_) (fun h_7 => ?_)
  · refine lv_iconst (v := iI (-1)) hx hb dX13_force_44 rfl ?_
    rw [← hQ]
    exact W.iret (v := iI (-1)) hx hb hr (fun t ht hW => ⟨⟨iI (-1), (g, a), rfl, ⟨(-1), rfl, hI, hfA, haA, by omega, by show rSh g a; first | exact rSh_t (by omega) (by omega) rfl rfl rfl rfl rfl hrSh | exact rSh_force hrSh (by omega) (by omega) rfl rfl rfl rfl rfl (by omega)⟩, by rw [ht]; exact hP, va_K.moved hW.alike hK, hD⟩, hS.F ht⟩) hS.2.2 dX13_force_45
  · refine lv_iload_n hx hb dX13_force_14 rfl (lv_at hl 2 rfl) ?_
    refine lv_iconst (v := iI (-1)) hx hb dX13_force_15 rfl ?_
    have J35 : ∀ (H : Heap) (locs : List Loc) (ls : Array Slot), ((-1) ≤ p2 ∧ p2 ≤ 5) → va_P (dC, dI) vwCl (mG ad ca g a) H → va_D A (mG ad ca g a) → va_S A s.heap H locs → lv_has ls 3 [(0, .ref (ad 0)), (1, .int (iI p1)), (2, .int (iI p2))] → W p l e ({ frames := 2, cells := 0, slots := 0, locals := 42 }) s m ([.ref (ad 0), .int (iI p1), .int (iI p2)] : List Value).toArray below meth c H locs 0 0 Q (F0 m 35 ls []) := by
      intro H locs ls h_8 hP hD hS hl
      refine lv_aload_n hx hb dX13_force_35 rfl (lv_at hl 0 rfl) ?_
      refine gf_forced hx hb hj hown hK hP hI dX13_force_36 (fun h_9 => ?_)
      refine lv_bipush (v := iI 20) hx hb dX13_force_39 rfl ?_
      refine xr_icmp_ne (tgt := 46) hx hb dX13_force_41 (by decide) (by omega) (by omega) (fun h_10 => ?_) (fun h_10 => ?_)
      · refine lv_aload_n hx hb dX13_force_46 rfl (lv_at hl 0 rfl) ?_
        refine gf_forcedSheet hx hb hj hown hK hP dX13_force_47 ?_
        refine lv_aload_n hx hb dX13_force_50 rfl (lv_at hl 0 rfl) ?_
        refine gf_forced hx hb hj hown hK hP hI dX13_force_51 (fun h_11 => ?_)
        refine lv_iload_n hx hb dX13_force_54 rfl (lv_at hl 1 rfl) ?_
        refine st_forcedSheet hx hb hK hP hD hS hI (by omega) (by omega) (by omega) (by omega) dX13_force_55 (fun a_12 H locs e_13 e_14 hI hP hD hS => ?_)
        have haA : ∀ j, j ∉ ([16, 17, 18] : List Nat) → a_12 j = a j := fun j h => (e_13 j (fun q => h (q ▸ (by decide : 16 ∈ ([16, 17, 18] : List Nat))))).trans (haA j h)
        have t_15 : a_12 9 = a 9 := (e_13 9 (by decide)).trans rfl
        have t_16 : a_12 10 = a 10 := (e_13 10 (by decide)).trans rfl
        have t_17 : a_12 11 = a 11 := (e_13 11 (by decide)).trans rfl
        have t_18 : a_12 12 = a 12 := (e_13 12 (by decide)).trans rfl
        have t_19 : a_12 16 = up (a 16) (g 26) p1 := e_14.trans (up_c rfl (by omega) (by omega))
        refine lv_aload_n hx hb dX13_force_56 rfl (lv_at hl 0 rfl) ?_
        refine gf_forcedFor hx hb hj hown hK hP dX13_force_57 ?_
        refine lv_aload_n hx hb dX13_force_60 rfl (lv_at hl 0 rfl) ?_
        refine gf_forced hx hb hj hown hK hP hI dX13_force_61 (fun h_20 => ?_)
        refine lv_iload_n hx hb dX13_force_64 rfl (lv_at hl 2 rfl) ?_
        refine st_forcedFor hx hb hK hP hD hS hI (by omega) (by omega) (by omega) (by omega) dX13_force_65 (fun a_21 H locs e_22 e_23 hI hP hD hS => ?_)
        have haA : ∀ j, j ∉ ([16, 17, 18] : List Nat) → a_21 j = a j := fun j h => (e_22 j (fun q => h (q ▸ (by decide : 17 ∈ ([16, 17, 18] : List Nat))))).trans (haA j h)
        have t_24 : a_21 9 = a 9 := (e_22 9 (by decide)).trans t_15
        have t_25 : a_21 10 = a 10 := (e_22 10 (by decide)).trans t_16
        have t_26 : a_21 11 = a 11 := (e_22 11 (by decide)).trans t_17
        have t_27 : a_21 12 = a 12 := (e_22 12 (by decide)).trans t_18
        have t_28 : a_21 16 = up (a 16) (g 26) p1 := (e_22 16 (by decide)).trans t_19
        refine lv_aload_n hx hb dX13_force_66 rfl (lv_at hl 0 rfl) ?_
        refine gf_forcedIn hx hb hj hown hK hP dX13_force_67 ?_
        refine lv_aload_n hx hb dX13_force_70 rfl (lv_at hl 0 rfl) ?_
        refine gf_forced hx hb hj hown hK hP hI dX13_force_71 (fun h_29 => ?_)
        refine lv_aload_n hx hb dX13_force_74 rfl (lv_at hl 0 rfl) ?_
        refine gf_now hx hb hj hown hK hP hI dX13_force_75 (fun h_30 => ?_)
        refine st_forcedIn hx hb hK hP hD hS hI (by omega) (by omega) (by omega) (by omega) dX13_force_78 (fun a_31 H locs e_32 e_33 hI hP hD hS => ?_)
        have haA : ∀ j, j ∉ ([16, 17, 18] : List Nat) → a_31 j = a j := fun j h => (e_32 j (fun q => h (q ▸ (by decide : 18 ∈ ([16, 17, 18] : List Nat))))).trans (haA j h)
        have t_34 : a_31 9 = a 9 := (e_32 9 (by decide)).trans t_24
        have t_35 : a_31 10 = a 10 := (e_32 10 (by decide)).trans t_25
        have t_36 : a_31 11 = a 11 := (e_32 11 (by decide)).trans t_26
        have t_37 : a_31 12 = a 12 := (e_32 12 (by decide)).trans t_27
        have t_38 : a_31 16 = up (a 16) (g 26) p1 := (e_32 16 (by decide)).trans t_28
        refine lv_aload_n hx hb dX13_force_79 rfl (lv_at hl 0 rfl) ?_
        refine lv_dup hx hb dX13_force_80 rfl ?_
        refine gf_forced hx hb hj hown hK hP hI dX13_force_81 (fun h_39 => ?_)
        refine lv_iconst (v := iI 1) hx hb dX13_force_84 rfl ?_
        refine xr_add hx hb dX13_force_85 ?_
        refine pf_forced hx hb hj hown hK hP hD hS hI (by omega) (by omega) dX13_force_86 (fun g_40 H locs e_41 e_42 hI hP hD hS => ?_)
        have hfA : ∀ j, j ∉ ([26] : List Nat) → g_40 j = g j := fun j h => (e_41 j (fun q => h (q ▸ (by decide : 26 ∈ ([26] : List Nat))))).trans (hfA j h)
        have b_43 : g_40 18 = g 18 := hfA 18 (by decide)
        have b_44 : g_40 30 = g 30 := hfA 30 (by decide)
        have b_45 := e_41 18 (by decide)
        refine lv_aload_n hx hb dX13_force_89 rfl (lv_at hl 0 rfl) ?_
        refine gf_forced hx hb hj hown hK hP hI dX13_force_90 (fun h_46 => ?_)
        rw [← hQ]
        exact W.iret (v := iI (g_40 26)) hx hb hr (fun t ht hW => ⟨⟨iI (g_40 26), (g_40, a_31), rfl, ⟨g_40 26, rfl, hI, hfA, haA, by omega, by show rSh g_40 a_31; first | exact rSh_t (by omega) (by omega) t_34 t_35 t_36 t_37 t_38 hrSh | exact rSh_force hrSh (by omega) (by omega) t_34 t_35 t_36 t_37 t_38 (by omega)⟩, by rw [ht]; exact hP, va_K.moved hW.alike hK, hD⟩, hS.F ht⟩) hS.2.2 dX13_force_93
      · refine lv_iconst (v := iI (-1)) hx hb dX13_force_44 rfl ?_
        rw [← hQ]
        exact W.iret (v := iI (-1)) hx hb hr (fun t ht hW => ⟨⟨iI (-1), (g, a), rfl, ⟨(-1), rfl, hI, hfA, haA, by omega, by show rSh g a; first | exact rSh_t (by omega) (by omega) rfl rfl rfl rfl rfl hrSh | exact rSh_force hrSh (by omega) (by omega) rfl rfl rfl rfl rfl (by omega)⟩, by rw [ht]; exact hP, va_K.moved hW.alike hK, hD⟩, hS.F ht⟩) hS.2.2 dX13_force_45
    refine xr_icmp_eq (tgt := 35) hx hb dX13_force_16 (by decide) (by omega) (by omega) (fun h_47 => ?_) (fun h_47 => ?_)
    · exact J35 H locs ls (by omega) hP hD hS hl
    · refine lv_iload_n hx hb dX13_force_19 rfl (lv_at hl 2 rfl) ?_
      refine jc_i (va_runS (As := [.int (iI p2)]) (rest := []) ⟨hx, hb, hml, hown, hts⟩ (sX13_isVolume l dC dI _ p2 (by omega)) (va_cwS 1 hts (jgoodS m_243 m_395 m_503 m_164) rfl rfl rfl (by decide +kernel) ⟨(Nat.le_of_ble_eq_true rfl), (Nat.le_of_ble_eq_true rfl)⟩) ⟨jw_blind0, fun U hU hW => ⟨rfl, congrArg Array.size hU⟩⟩ rfl rfl hl.1 rfl (lv_room (Nat.le_of_ble_eq_true rfl)) dX13_force_20 ⟨(Nat.le_of_ble_eq_true rfl), (Nat.le_of_ble_eq_true rfl)⟩) hP hS hA (fun r_48 H locs w_49 hP hS => ?_)
      obtain ⟨z_50, rfl, h_51, h_52⟩ := w_49
      refine xr_if_eq (tgt := 44) hx hb dX13_force_23 (by decide) (by omega) (fun h_53 => ?_) (fun h_53 => ?_)
      · refine lv_iconst (v := iI (-1)) hx hb dX13_force_44 rfl ?_
        rw [← hQ]
        exact W.iret (v := iI (-1)) hx hb hr (fun t ht hW => ⟨⟨iI (-1), (g, a), rfl, ⟨(-1), rfl, hI, hfA, haA, by omega, by show rSh g a; first | exact rSh_t (by omega) (by omega) rfl rfl rfl rfl rfl hrSh | exact rSh_force hrSh (by omega) (by omega) rfl rfl rfl rfl rfl (by omega)⟩, by rw [ht]; exact hP, va_K.moved hW.alike hK, hD⟩, hS.F ht⟩) hS.2.2 dX13_force_45
      · refine lv_aload_n hx hb dX13_force_26 rfl (lv_at hl 0 rfl) ?_
        refine gf_isSet hx hb hj hown hK hP dX13_force_27 ?_
        refine lv_iload_n hx hb dX13_force_30 rfl (lv_at hl 2 rfl) ?_
        refine ld_isSet hx hb hK hP hI (by omega) (by omega) dX13_force_31 (fun h_54 => ?_)
        refine xr_if_ne (tgt := 44) hx hb dX13_force_32 (by decide) (by omega) (fun h_55 => ?_) (fun h_55 => ?_)
        · refine lv_iconst (v := iI (-1)) hx hb dX13_force_44 rfl ?_
          rw [← hQ]
          exact W.iret (v := iI (-1)) hx hb hr (fun t ht hW => ⟨⟨iI (-1), (g, a), rfl, ⟨(-1), rfl, hI, hfA, haA, by omega, by show rSh g a; first | exact rSh_t (by omega) (by omega) rfl rfl rfl rfl rfl hrSh | exact rSh_force hrSh (by omega) (by omega) rfl rfl rfl rfl rfl (by omega)⟩, by rw [ht]; exact hP, va_K.moved hW.alike hK, hD⟩, hS.F ht⟩) hS.2.2 dX13_force_45
        · exact J35 H locs ls (by omega) hP hD hS hl
set_option maxHeartbeats 2000000 in
set_option maxRecDepth 100000 in
theorem sX13_subscribe (l : Launch) (dC : Nat → ClassId) (dI : Nat → Nat → Nat) (sz : Nat) (ad : Nat → Nat) (ca : Nat → ClassId) (g : Nat → Int) (a : Nat → Int → Int) (p1 : Int) (p2 : Int) (p3 : Int) (hI : mI g a) (q1 : rg p1) (q2 : rg p2) (q3 : rg p3) : Met l yX13_subscribe (jk yX13_subscribe cX13_subscribe 4 (some .boolean)) ({ frames := 2, cells := 0, slots := 0, locals := 42 }) (va_Pc [.ref (ad 0), .int (iI p1), .int (iI p2), .int (iI p3)] (jw_P (dC, dI) (mG ad ca g a) (mT ca) sz)) (va_Qi (fun (r : Int32) (u : (Nat → Int) × (Nat → Int → Int)) => ∃ z : Int, r = iI z ∧ (u.1 = g) ∧ (mI u.1 u.2) ∧ (∀ j, j ∉ ([59, 60] : List Nat) → u.2 j = a j) ∧ (0 ≤ z ∧ z ≤ 1) ∧ ((z = 0 ∧ (p1 < 0 ∨ 9 < p1 ∨ p2 < 0 ∨ 5 < p2 ∨ p3 < 1 ∨ 999 < p3 ∨ 0 < a 60 p1)) ∨ (z = 1 ∧ 0 ≤ p1 ∧ p1 ≤ 9 ∧ 0 ≤ p2 ∧ p2 ≤ 5 ∧ 1 ≤ p3 ∧ p3 ≤ 999 ∧ a 60 p1 ≤ 0)) ∧ (z = 1 ∨ u.2 60 = a 60) ∧ (z = 0 ∨ u.2 60 = up (a 60) p1 p3)) (fun u t => va_P (dC, dI) vwCl (mG ad ca u.1 u.2) t.heap ∧ va_K (dC, dI) vwCl (mT ca) t ∧ va_D (va_A (mG ad ca g a) sz) (mG ad ca u.1 u.2)) (va_A (mG ad ca g a) sz)) 0 0 (va_A (mG ad ca g a) sz) := by
  refine Met.ofW (cc := cX13_subscribe) (maxL := 4) (ret := (some .boolean)) (by decide) rfl ?_
  intro p e s m args below meth c s₁ B hml hv
  obtain ⟨rfl, hsz, hP, hK, hD0⟩ := hv
  have hx := B.exec
  have hb := B.bytes
  have hr := B.returns
  have hts := atoms_spec (ws := (jk yX13_subscribe cX13_subscribe 4 (some .boolean))) B.pre
  have hj : ∀ w ∈ jw, w.before ([.ref (ad 0), .int (iI p1), .int (iI p2), .int (iI p3)] : List Value).toArray s = true := fun w h => hts w (jm h)
  have hown : s.vm.findClass RX13 = some m.cls := findClass_of_methodNamed B.named
  subst hsz
  have hD := hD0.self (sz := s.heap.size)
  generalize hAe : (va_A (mG ad ca g a) s.heap.size) = A at hD ⊢
  have hA : ∀ q : Nat, s.heap.size ≤ q → A q := fun q h => by rw [← hAe]; exact Or.inr h
  have hS : va_S A s.heap s.heap [] := va_S.rf
  have hP : va_P (dC, dI) vwCl (mG ad ca g a) s.heap := hP
  have haA : ∀ j, j ∉ ([59, 60] : List Nat) → a j = a j := fun _ _ => rfl
  have hl := lv_entry ([.ref (ad 0), .int (iI p1), .int (iI p2), .int (iI p3)]) (n := 4) (Nat.le_of_ble_eq_true rfl)
  rw [lg_entry_eq]
  generalize (lg_sl ([.ref (ad 0), .int (iI p1), .int (iI p2), .int (iI p3)]) ++ List.replicate (4 - (lg_sl ([.ref (ad 0), .int (iI p1), .int (iI p2), .int (iI p3)])).length) Slot.unset).toArray = ls at hl ⊢
  have hl : lv_has ls 4 [(0, .ref (ad 0)), (1, .int (iI p1)), (2, .int (iI p2)), (3, .int (iI p3))] := hl
  generalize hQ : MQ below (va_Qi (fun (r : Int32) (u : (Nat → Int) × (Nat → Int → Int)) => ∃ z : Int, r = iI z ∧ (u.1 = g) ∧ (mI u.1 u.2) ∧ (∀ j, j ∉ ([59, 60] : List Nat) → u.2 j = a j) ∧ (0 ≤ z ∧ z ≤ 1) ∧ ((z = 0 ∧ (p1 < 0 ∨ 9 < p1 ∨ p2 < 0 ∨ 5 < p2 ∨ p3 < 1 ∨ 999 < p3 ∨ 0 < a 60 p1)) ∨ (z = 1 ∧ 0 ≤ p1 ∧ p1 ≤ 9 ∧ 0 ≤ p2 ∧ p2 ≤ 5 ∧ 1 ≤ p3 ∧ p3 ≤ 999 ∧ a 60 p1 ≤ 0)) ∧ (z = 1 ∨ u.2 60 = a 60) ∧ (z = 0 ∨ u.2 60 = up (a 60) p1 p3)) (fun u t => va_P (dC, dI) vwCl (mG ad ca u.1 u.2) t.heap ∧ va_K (dC, dI) vwCl (mT ca) t ∧ va_D A (mG ad ca u.1 u.2)) A) ([.ref (ad 0), .int (iI p1), .int (iI p2), .int (iI p3)] : List Value).toArray s 0 0 A = Q
  suffices ST : ∀ (H : Heap) (locs : List Loc), va_P (dC, dI) vwCl (mG ad ca g a) H → va_S A s.heap H locs → W p l e ({ frames := 2, cells := 0, slots := 0, locals := 42 }) s m ([.ref (ad 0), .int (iI p1), .int (iI p2), .int (iI p3)] : List Value).toArray below meth c H locs 0 0 Q (F0 m 0 ls []) from ST _ _ hP hS
  clear hP hS
  intro H locs hP hS
  refine lv_iload_n hx hb dX13_subscribe_0 rfl (lv_at hl 1 rfl) ?_
  refine lv_iconst (v := iI 0) hx hb dX13_subscribe_1 rfl ?_
  refine lv_bipush (v := iI 9) hx hb dX13_subscribe_2 rfl ?_
  refine jc_i (va_runS (As := [.int (iI p1), .int (iI 0), .int (iI 9)]) (rest := []) ⟨hx, hb, hml, hown, hts⟩ (sX13_in l dC dI _ p1 0 9 (by omega) (by omega) (by omega)) (va_cwS 3 hts (jgoodS m_220 m_364 m_503 m_147) rfl rfl rfl (by decide +kernel) ⟨(Nat.le_of_ble_eq_true rfl), (Nat.le_of_ble_eq_true rfl)⟩) ⟨jw_blind0, fun U hU hW => ⟨rfl, congrArg Array.size hU⟩⟩ rfl rfl hl.1 rfl (lv_room (Nat.le_of_ble_eq_true rfl)) dX13_subscribe_4 ⟨(Nat.le_of_ble_eq_true rfl), (Nat.le_of_ble_eq_true rfl)⟩) hP hS hA (fun r_1 H locs w_2 hP hS => ?_)
  obtain ⟨z_3, rfl, h_4, h_5⟩ := w_2
  refine xr_if_eq (tgt := 37) hx hb dX13_subscribe_7 (by decide) (by omega) (fun h_6 => ?_) (fun h_6 => ?_)
  · refine lv_iconst (v := iI 0) hx hb dX13_subscribe_37 rfl ?_
    rw [← hQ]
    exact W.zret (v := iI 0) (ty := .boolean) hx hb hr (nb_bool (by omega) (by omega)) (fun t ht hW => ⟨⟨iI 0, (g, a), rfl, ⟨0, rfl, rfl, hI, haA, by omega, by omega, by show 0 = 1 ∨ a 60 = a 60; first | exact Or.inl rfl | exact Or.inr rfl, by show 0 = 0 ∨ a 60 = up (a 60) p1 p3; first | exact Or.inl rfl | exact Or.inr rfl⟩, by rw [ht]; exact hP, va_K.moved hW.alike hK, hD⟩, hS.F ht⟩) hS.2.2 dX13_subscribe_38
  · refine lv_iload_n hx hb dX13_subscribe_10 rfl (lv_at hl 2 rfl) ?_
    refine jc_i (va_runS (As := [.int (iI p2)]) (rest := []) ⟨hx, hb, hml, hown, hts⟩ (sX13_isVolume l dC dI _ p2 (by omega)) (va_cwS 1 hts (jgoodS m_243 m_395 m_503 m_164) rfl rfl rfl (by decide +kernel) ⟨(Nat.le_of_ble_eq_true rfl), (Nat.le_of_ble_eq_true rfl)⟩) ⟨jw_blind0, fun U hU hW => ⟨rfl, congrArg Array.size hU⟩⟩ rfl rfl hl.1 rfl (lv_room (Nat.le_of_ble_eq_true rfl)) dX13_subscribe_11 ⟨(Nat.le_of_ble_eq_true rfl), (Nat.le_of_ble_eq_true rfl)⟩) hP hS hA (fun r_7 H locs w_8 hP hS => ?_)
    obtain ⟨z_9, rfl, h_10, h_11⟩ := w_8
    refine xr_if_eq (tgt := 37) hx hb dX13_subscribe_14 (by decide) (by omega) (fun h_12 => ?_) (fun h_12 => ?_)
    · refine lv_iconst (v := iI 0) hx hb dX13_subscribe_37 rfl ?_
      rw [← hQ]
      exact W.zret (v := iI 0) (ty := .boolean) hx hb hr (nb_bool (by omega) (by omega)) (fun t ht hW => ⟨⟨iI 0, (g, a), rfl, ⟨0, rfl, rfl, hI, haA, by omega, by omega, by show 0 = 1 ∨ a 60 = a 60; first | exact Or.inl rfl | exact Or.inr rfl, by show 0 = 0 ∨ a 60 = up (a 60) p1 p3; first | exact Or.inl rfl | exact Or.inr rfl⟩, by rw [ht]; exact hP, va_K.moved hW.alike hK, hD⟩, hS.F ht⟩) hS.2.2 dX13_subscribe_38
    · refine lv_iload_n hx hb dX13_subscribe_17 rfl (lv_at hl 3 rfl) ?_
      refine lv_iconst (v := iI 1) hx hb dX13_subscribe_18 rfl ?_
      refine lv_sipush (v := iI 999) hx hb dX13_subscribe_19 rfl ?_
      refine jc_i (va_runS (As := [.int (iI p3), .int (iI 1), .int (iI 999)]) (rest := []) ⟨hx, hb, hml, hown, hts⟩ (sX13_in l dC dI _ p3 1 999 (by omega) (by omega) (by omega)) (va_cwS 3 hts (jgoodS m_220 m_364 m_503 m_147) rfl rfl rfl (by decide +kernel) ⟨(Nat.le_of_ble_eq_true rfl), (Nat.le_of_ble_eq_true rfl)⟩) ⟨jw_blind0, fun U hU hW => ⟨rfl, congrArg Array.size hU⟩⟩ rfl rfl hl.1 rfl (lv_room (Nat.le_of_ble_eq_true rfl)) dX13_subscribe_22 ⟨(Nat.le_of_ble_eq_true rfl), (Nat.le_of_ble_eq_true rfl)⟩) hP hS hA (fun r_13 H locs w_14 hP hS => ?_)
      obtain ⟨z_15, rfl, h_16, h_17⟩ := w_14
      refine xr_if_eq (tgt := 37) hx hb dX13_subscribe_25 (by decide) (by omega) (fun h_18 => ?_) (fun h_18 => ?_)
      · refine lv_iconst (v := iI 0) hx hb dX13_subscribe_37 rfl ?_
        rw [← hQ]
        exact W.zret (v := iI 0) (ty := .boolean) hx hb hr (nb_bool (by omega) (by omega)) (fun t ht hW => ⟨⟨iI 0, (g, a), rfl, ⟨0, rfl, rfl, hI, haA, by omega, by omega, by show 0 = 1 ∨ a 60 = a 60; first | exact Or.inl rfl | exact Or.inr rfl, by show 0 = 0 ∨ a 60 = up (a 60) p1 p3; first | exact Or.inl rfl | exact Or.inr rfl⟩, by rw [ht]; exact hP, va_K.moved hW.alike hK, hD⟩, hS.F ht⟩) hS.2.2 dX13_subscribe_38
      · refine lv_aload_n hx hb dX13_subscribe_28 rfl (lv_at hl 0 rfl) ?_
        refine gf_subscribedFor hx hb hj hown hK hP dX13_subscribe_29 ?_
        refine lv_iload_n hx hb dX13_subscribe_32 rfl (lv_at hl 1 rfl) ?_
        refine ld_subscribedFor hx hb hK hP hI (by omega) (by omega) dX13_subscribe_33 (fun h_19 => ?_)
        refine xr_if_le (tgt := 39) hx hb dX13_subscribe_34 (by decide) (by omega) (fun h_20 => ?_) (fun h_20 => ?_)
        · refine lv_aload_n hx hb dX13_subscribe_39 rfl (lv_at hl 0 rfl) ?_
          refine gf_subscribedFrom hx hb hj hown hK hP dX13_subscribe_40 ?_
          refine lv_iload_n hx hb dX13_subscribe_43 rfl (lv_at hl 1 rfl) ?_
          refine lv_iload_n hx hb dX13_subscribe_44 rfl (lv_at hl 2 rfl) ?_
          refine st_subscribedFrom hx hb hK hP hD hS hI (by omega) (by omega) (by omega) (by omega) dX13_subscribe_45 (fun a_21 H locs e_22 e_23 hI hP hD hS => ?_)
          have haA : ∀ j, j ∉ ([59, 60] : List Nat) → a_21 j = a j := fun j h => (e_22 j (fun q => h (q ▸ (by decide : 59 ∈ ([59, 60] : List Nat))))).trans (haA j h)
          have t_24 : a_21 60 = a 60 := (e_22 60 (by decide)).trans rfl
          refine lv_aload_n hx hb dX13_subscribe_46 rfl (lv_at hl 0 rfl) ?_
          refine gf_subscribedFor hx hb hj hown hK hP dX13_subscribe_47 ?_
          refine lv_iload_n hx hb dX13_subscribe_50 rfl (lv_at hl 1 rfl) ?_
          refine lv_iload_n hx hb dX13_subscribe_51 rfl (lv_at hl 3 rfl) ?_
          refine st_subscribedFor hx hb hK hP hD hS hI (by omega) (by omega) (by omega) (by omega) dX13_subscribe_52 (fun a_25 H locs e_26 e_27 hI hP hD hS => ?_)
          have haA : ∀ j, j ∉ ([59, 60] : List Nat) → a_25 j = a j := fun j h => (e_26 j (fun q => h (q ▸ (by decide : 60 ∈ ([59, 60] : List Nat))))).trans (haA j h)
          have t_28 : a_25 60 = up (a 60) p1 p3 := e_27.trans (up_c t_24 (by omega) (by omega))
          refine lv_iconst (v := iI 1) hx hb dX13_subscribe_53 rfl ?_
          rw [← hQ]
          exact W.zret (v := iI 1) (ty := .boolean) hx hb hr (nb_bool (by omega) (by omega)) (fun t ht hW => ⟨⟨iI 1, (g, a_25), rfl, ⟨1, rfl, rfl, hI, haA, by omega, by omega, by show 1 = 1 ∨ a_25 60 = a 60; first | exact Or.inl rfl | exact Or.inr t_28, by show 1 = 0 ∨ a_25 60 = up (a 60) p1 p3; first | exact Or.inl rfl | exact Or.inr t_28⟩, by rw [ht]; exact hP, va_K.moved hW.alike hK, hD⟩, hS.F ht⟩) hS.2.2 dX13_subscribe_54
        · refine lv_iconst (v := iI 0) hx hb dX13_subscribe_37 rfl ?_
          rw [← hQ]
          exact W.zret (v := iI 0) (ty := .boolean) hx hb hr (nb_bool (by omega) (by omega)) (fun t ht hW => ⟨⟨iI 0, (g, a), rfl, ⟨0, rfl, rfl, hI, haA, by omega, by omega, by show 0 = 1 ∨ a 60 = a 60; first | exact Or.inl rfl | exact Or.inr rfl, by show 0 = 0 ∨ a 60 = up (a 60) p1 p3; first | exact Or.inl rfl | exact Or.inr rfl⟩, by rw [ht]; exact hP, va_K.moved hW.alike hK, hD⟩, hS.F ht⟩) hS.2.2 dX13_subscribe_38
