set_option maxHeartbeats 2000000 in
set_option maxRecDepth 100000 in
theorem sX13_holds (l : Launch) (dC : Nat → ClassId) (dI : Nat → Nat → Nat) (sz : Nat) (ad : Nat → Nat) (ca : Nat → ClassId) (sK sV : Nat → Nat) (g : Nat → Int) (a : Nat → Int → Int) (hI : mI g a) (k1 : a 2 (g 7) = 10) (hrP1 : rP1 g a) : Met l yX13_holds (jk yX13_holds cX13_holds 1 (some .boolean)) ({ frames := 7, cells := 0, slots := 0, locals := 153 }) (va_Pc [.ref (ad 0)] (mP (dC, dI) (mG ad ca g a) (mT ca) sK sV sz)) (va_Qi (fun (r : Int32) (u : (Nat → Int) × (Nat → Int → Int)) => ∃ z : Int, r = iI z ∧ (mI u.1 u.2) ∧ (∀ j, j ∉ ([2, 3, 4, 5, 7, 8] : List Nat) → u.1 j = g j) ∧ (∀ j, j ∉ ([2] : List Nat) → u.2 j = a j) ∧ (0 ≤ z ∧ z ≤ 1) ∧ (z = 0 ∨ (rPn u.1 u.2 (u.1 7) ∧ mz u.1 u.2 (u.1 7) < mz g a (g 7 + 1)))) (fun u t => va_P (dC, dI) vwCl (mG ad ca u.1 u.2) t.heap ∧ va_K (dC, dI) vwCl (mT ca) t ∧ va_D (va_A (mG ad ca g a) sz) (mG ad ca u.1 u.2)) (va_A (mG ad ca g a) sz)) 0 0 (va_A (mG ad ca g a) sz) := by
  refine Met.ofW (cc := cX13_holds) (maxL := 1) (ret := (some .boolean)) (by decide) rfl ?_
  intro p e s m args below meth c s₁ B hml hv
  obtain ⟨rfl, ⟨hsz, hP, hK, hD0⟩, hX0⟩ := hv
  have hx := B.exec
  have hb := B.bytes
  have hr := B.returns
  have hts := atoms_spec (ws := (jk yX13_holds cX13_holds 1 (some .boolean))) B.pre
  have hj : ∀ w ∈ jw, w.before ([.ref (ad 0)] : List Value).toArray s = true := fun w h => hts w (jm h)
  have hown : s.vm.findClass RX13 = some m.cls := findClass_of_methodNamed B.named
  subst hsz
  have hD := hD0.self (sz := s.heap.size)
  have hXs := hX0
  generalize hAe : (va_A (mG ad ca g a) s.heap.size) = A at hD hXs ⊢
  have hA : ∀ q : Nat, s.heap.size ≤ q → A q := fun q h => by rw [← hAe]; exact Or.inr h
  have hS : va_S A s.heap s.heap [] := va_S.rf
  have hP : va_P (dC, dI) vwCl (mG ad ca g a) s.heap := hP
  have hfA : ∀ j, j ∉ ([2, 3, 4, 5, 7, 8] : List Nat) → g j = g j := fun _ _ => rfl
  have haA : ∀ j, j ∉ ([2] : List Nat) → a j = a j := fun _ _ => rfl
  have hl := lv_entry ([.ref (ad 0)]) (n := 1) (Nat.le_of_ble_eq_true rfl)
  rw [lg_entry_eq]
  generalize (lg_sl ([.ref (ad 0)]) ++ List.replicate (1 - (lg_sl ([.ref (ad 0)])).length) Slot.unset).toArray = ls at hl ⊢
  have hl : lv_has ls 1 [(0, .ref (ad 0))] := hl
  generalize hQ : MQ below (va_Qi (fun (r : Int32) (u : (Nat → Int) × (Nat → Int → Int)) => ∃ z : Int, r = iI z ∧ (mI u.1 u.2) ∧ (∀ j, j ∉ ([2, 3, 4, 5, 7, 8] : List Nat) → u.1 j = g j) ∧ (∀ j, j ∉ ([2] : List Nat) → u.2 j = a j) ∧ (0 ≤ z ∧ z ≤ 1) ∧ (z = 0 ∨ (rPn u.1 u.2 (u.1 7) ∧ mz u.1 u.2 (u.1 7) < mz g a (g 7 + 1)))) (fun u t => va_P (dC, dI) vwCl (mG ad ca u.1 u.2) t.heap ∧ va_K (dC, dI) vwCl (mT ca) t ∧ va_D A (mG ad ca u.1 u.2)) A) ([.ref (ad 0)] : List Value).toArray s 0 0 A = Q
  suffices ST : ∀ (H : Heap) (locs : List Loc), va_P (dC, dI) vwCl (mG ad ca g a) H → va_S A s.heap H locs → W p l e ({ frames := 7, cells := 0, slots := 0, locals := 153 }) s m ([.ref (ad 0)] : List Value).toArray below meth c H locs 0 0 Q (F0 m 0 ls []) from ST _ _ hP hS
  clear hP hS
  intro H locs hP hS
  obtain ⟨bb1, bb2, bb3, bb4, bb5, bb6⟩ := bd_1 hrP1
  have bb7 := tkk_b (g 3)
  have b7_0 : 0 ≤ g 7 ∧ g 7 ≤ 1200 := hI.1 7
  have b1_0 : 0 ≤ g 1 ∧ g 1 ≤ 600 := hI.1 1
  have b2_0 : 0 ≤ g 2 ∧ g 2 ≤ 600 := hI.1 2
  refine lv_aload_n hx hb dX13_holds_0 rfl (lv_at hl 0 rfl) ?_
  refine lv_bipush (v := iI 27) hx hb dX13_holds_1 rfl ?_
  refine jc_i (va_runV (As := [.int (iI 27)]) (rest := []) ⟨hx, hb, hml, hown, hts⟩ (sX13_isWord l dC dI _ ad ca g a 27 hI (by omega)) (cwV 1 hts (jgoodV m_236 m_396 m_397 m_503 m_165) rfl rfl rfl (by decide +kernel) ⟨(Nat.le_of_ble_eq_true rfl), (Nat.le_of_ble_eq_true rfl)⟩) ⟨jw_blind, va_recv hK hP (ci := 13) (q0 := 0) rfl rfl, fun U hU hW => ⟨rfl, jw_of hU hW hP hK hD⟩⟩ rfl rfl hl.1 rfl (lv_room (Nat.le_of_ble_eq_true rfl)) dX13_holds_3 ⟨(Nat.le_of_ble_eq_true rfl), (Nat.le_of_ble_eq_true rfl)⟩) hP hS hA (fun r_1 H locs w_2 hP hS => ?_)
  obtain ⟨z_3, rfl, h_4, h_5⟩ := w_2
  have b_6 : 0 ≤ g 3 ∧ g 3 ≤ 4 := hI.1 3
  refine xr_if_eq (tgt := 36) hx hb dX13_holds_6 (by decide) (by omega) (fun h_7 => ?_) (fun h_7 => ?_)
  · refine lv_aload_n hx hb dX13_holds_36 rfl (lv_at hl 0 rfl) ?_
    refine lv_bipush (v := iI 91) hx hb dX13_holds_37 rfl ?_
    refine jc_i (va_runV (As := [.int (iI 91)]) (rest := []) ⟨hx, hb, hml, hown, hts⟩ (sX13_isSign l dC dI _ ad ca g a 91 hI (by omega)) (cwV 1 hts (jgoodV m_227 m_389 m_390 m_503 m_161) rfl rfl rfl (by decide +kernel) ⟨(Nat.le_of_ble_eq_true rfl), (Nat.le_of_ble_eq_true rfl)⟩) ⟨jw_blind, va_recv hK hP (ci := 13) (q0 := 0) rfl rfl, fun U hU hW => ⟨rfl, jw_of hU hW hP hK hD⟩⟩ rfl rfl hl.1 rfl (lv_room (Nat.le_of_ble_eq_true rfl)) dX13_holds_39 ⟨(Nat.le_of_ble_eq_true rfl), (Nat.le_of_ble_eq_true rfl)⟩) hP hS hA (fun r_8 H locs w_9 hP hS => ?_)
    obtain ⟨z_10, rfl, h_11, h_12⟩ := w_9
    have b_13 : 0 ≤ g 3 ∧ g 3 ≤ 4 := hI.1 3
    refine xr_if_eq (tgt := 72) hx hb dX13_holds_42 (by decide) (by omega) (fun h_14 => ?_) (fun h_14 => ?_)
    · refine lv_aload_n hx hb dX13_holds_72 rfl (lv_at hl 0 rfl) ?_
      refine lv_bipush (v := iI 11) hx hb dX13_holds_73 rfl ?_
      refine lv_iconst (v := iI 1) hx hb dX13_holds_75 rfl ?_
      refine jcg_i (va_runV (As := [.int (iI 11), .int (iI 1)]) (rest := []) ⟨hx, hb, hml, hown, hts⟩ (sX13_both l dC dI _ ad ca g a 11 1 hI (by omega) (by omega) (by omega)) (cwV 2 hts (jgoodV m_230 m_295 m_296 m_503 m_112) rfl rfl rfl (by decide +kernel) ⟨(Nat.le_of_ble_eq_true rfl), (Nat.le_of_ble_eq_true rfl)⟩) ⟨jw_blind, va_recv hK hP (ci := 13) (q0 := 0) rfl rfl, fun U hU hW => ⟨rfl, jw_of hU hW hP hK hD⟩⟩ rfl rfl hl.1 rfl (lv_room (Nat.le_of_ble_eq_true rfl)) dX13_holds_76 ⟨(Nat.le_of_ble_eq_true rfl), (Nat.le_of_ble_eq_true rfl)⟩) hD hS hA (fun r_15 u_24 H locs w_16 hP hK hD hS => ?_)
      obtain ⟨g_22, a_23⟩ := u_24
      obtain ⟨z_17, rfl, hI, hfr_25, hfr_26, h_18, h_19, h_20, h_21⟩ := w_16
      have hP : va_P (dC, dI) vwCl (mG ad ca g_22 a_23) H := hP
      have hD : va_D A (mG ad ca g_22 a_23) := hD
      have hfA : ∀ j, j ∉ ([2, 3, 4, 5, 7, 8] : List Nat) → g_22 j = g j := fun j h => (hfr_25 j (fun q => h (by first | exact q | (simp only [List.mem_cons, List.not_mem_nil, or_false] at q ⊢ <;> omega)))).trans (hfA j h)
      have b_28 : g_22 1 = g 1 := hfA 1 (by decide)
      have b_29 : g_22 9 = g 9 := hfA 9 (by decide)
      have b_30 : g_22 12 = g 12 := hfA 12 (by decide)
      have b_31 : g_22 15 = g 15 := hfA 15 (by decide)
      have b_32 := hfr_25 2 (by decide)
      have b_33 := hfr_25 3 (by decide)
      have b_34 := hfr_25 8 (by decide)
      have haA : ∀ j, j ∉ ([2] : List Nat) → a_23 j = a j := fun j h => (hfr_26 j (fun q => h (by first | exact q | (simp only [List.mem_cons, List.not_mem_nil, or_false] at q ⊢ <;> omega)))).trans (haA j h)
      have h_19 : g_22 7 = g 7 + 2 := h_19
      have h_20 : a_23 2 = up (up (a 2) (g 7) 11) (g 7 + 1) 1 := h_20
      have b_35 : g_22 1 = g 1 := hfr_25 1 (by decide)
      have b_36 : g_22 2 = g 2 := hfr_25 2 (by decide)
      have b_37 : g_22 3 = g 3 := hfr_25 3 (by decide)
      have b_38 : g_22 4 = g 4 := hfr_25 4 (by decide)
      have b_39 : g_22 8 = g 8 := hfr_25 8 (by decide)
      have b_40 : g_22 9 = g 9 := hfr_25 9 (by decide)
      have b_41 : g_22 12 = g 12 := hfr_25 12 (by decide)
      have b_42 : g_22 15 = g 15 := hfr_25 15 (by decide)
      have t_43 : a_23 2 = up (up (a 2) (g 7) 11) (g 7 + 1) 1 := h_20.trans (up_c (up_c rfl (by omega) (by omega)) (by omega) (by omega))
      have t_44 : a_23 3 = a 3 := (hfr_26 3 (by decide)).trans rfl
      have t_45 : a_23 4 = a 4 := (hfr_26 4 (by decide)).trans rfl
      have t_46 : a_23 5 = a 5 := (hfr_26 5 (by decide)).trans rfl
      have t_47 : a_23 6 = a 6 := (hfr_26 6 (by decide)).trans rfl
      have t_48 : a_23 7 = a 7 := (hfr_26 7 (by decide)).trans rfl
      have t_49 : a_23 8 = a 8 := (hfr_26 8 (by decide)).trans rfl
      have b_50 : 0 ≤ g_22 7 ∧ g_22 7 ≤ 1200 := hI.1 7
      rw [← hQ]
      exact W.zret (v := iI z_17) (ty := .boolean) hx hb hr (nb_bool (by omega) (by omega)) (fun t ht hW => ⟨⟨iI z_17, (g_22, a_23), rfl, ⟨z_17, rfl, hI, hfA, haA, by omega, by show z_17 = 0 ∨ (rPn g_22 a_23 (g_22 7) ∧ mz g_22 a_23 (g_22 7) < mz g a (g 7 + 1)); first | exact Or.inl rfl | exact Or.inr (st_10n hrP1 (by omega) k1 ⟨by omega, by omega, by omega, by omega, t_44, t_45, t_46, t_47, t_48, t_49⟩ (by omega) (by omega) (by omega) (by omega) ⟨by omega, by omega, by omega⟩ ((t_43).trans (up_c rfl (by omega) rfl))) | exact Or.inr (st_10b hrP1 (by omega) k1 ⟨by omega, by omega, by omega, by omega, t_44, t_45, t_46, t_47, t_48, t_49⟩ (by omega) (by omega) (by omega) (by omega) ⟨by omega, by omega, by omega⟩ ((t_43).trans (up_c rfl (by omega) rfl))) | exact Or.inr (st_10 hrP1 (by omega) k1 ⟨by omega, by omega, by omega, by omega, t_44, t_45, t_46, t_47, t_48, t_49⟩ (by omega) (by omega) (by omega) (by omega) (by omega) t_43)⟩, by rw [ht]; exact hP, va_K.moved hW.alike hK, hD⟩, hS.F ht⟩) hS.2.2 dX13_holds_79
    · refine lv_aload_n hx hb dX13_holds_45 rfl (lv_at hl 0 rfl) ?_
      refine jcg_i (va_runV (As := []) (rest := []) ⟨hx, hb, hml, hown, hts⟩ (sX13_deeper l dC dI _ ad ca g a  hI (by omega) (by omega) (by omega)) (cwV 0 hts (jgoodV m_240 m_318 m_319 m_503 m_124) rfl rfl rfl (by decide +kernel) ⟨(Nat.le_of_ble_eq_true rfl), (Nat.le_of_ble_eq_true rfl)⟩) ⟨jw_blind, va_recv hK hP (ci := 13) (q0 := 0) rfl rfl, fun U hU hW => ⟨rfl, jw_of hU hW hP hK hD⟩⟩ rfl rfl hl.1 rfl (lv_room (Nat.le_of_ble_eq_true rfl)) dX13_holds_46 ⟨(Nat.le_of_ble_eq_true rfl), (Nat.le_of_ble_eq_true rfl)⟩) hD hS hA (fun r_51 u_59 H locs w_52 hP hK hD hS => ?_)
      obtain ⟨g_57, a_58⟩ := u_59
      obtain ⟨z_53, rfl, hI, hfr_60, hfr_61, h_54, h_55, h_56⟩ := w_52
      have hP : va_P (dC, dI) vwCl (mG ad ca g_57 a_58) H := hP
      have hD : va_D A (mG ad ca g_57 a_58) := hD
      have hfA : ∀ j, j ∉ ([2, 3, 4, 5, 7, 8] : List Nat) → g_57 j = g j := fun j h => (hfr_60 j (fun q => h (by first | exact q | (simp only [List.mem_cons, List.not_mem_nil, or_false] at q ⊢ <;> omega)))).trans (hfA j h)
      have b_63 : g_57 1 = g 1 := hfA 1 (by decide)
      have b_64 : g_57 9 = g 9 := hfA 9 (by decide)
      have b_65 : g_57 12 = g 12 := hfA 12 (by decide)
      have b_66 : g_57 15 = g 15 := hfA 15 (by decide)
      have b_67 := hfr_60 2 (by decide)
      have b_68 := hfr_60 3 (by decide)
      have haA : ∀ j, j ∉ ([2] : List Nat) → a_58 j = a j := fun j h => (hfr_61 j (fun q => h (by first | exact q | (simp only [List.mem_cons, List.not_mem_nil, or_false] at q ⊢ <;> omega)))).trans (haA j h)
      have h_55 : (z_53 = 0 ∧ g_57 7 = g 7 ∧ g_57 8 = g 8) ∨ (z_53 = 1 ∧ g 8 ≠ 8 ∧ g_57 7 = g 7 + 1 ∧ g_57 8 = g 8 + 1) := h_55
      have h_56 : z_53 = 0 ∨ a_58 2 = up (a 2) (g 7) 12 := h_56
      have b_69 : g_57 1 = g 1 := hfr_60 1 (by decide)
      have b_70 : g_57 2 = g 2 := hfr_60 2 (by decide)
      have b_71 : g_57 3 = g 3 := hfr_60 3 (by decide)
      have b_72 : g_57 4 = g 4 := hfr_60 4 (by decide)
      have b_73 : g_57 9 = g 9 := hfr_60 9 (by decide)
      have b_74 : g_57 12 = g 12 := hfr_60 12 (by decide)
      have b_75 : g_57 15 = g 15 := hfr_60 15 (by decide)
      have t_76 : a_58 3 = a 3 := (hfr_61 3 (by decide)).trans rfl
      have t_77 : a_58 4 = a 4 := (hfr_61 4 (by decide)).trans rfl
      have t_78 : a_58 5 = a 5 := (hfr_61 5 (by decide)).trans rfl
      have t_79 : a_58 6 = a 6 := (hfr_61 6 (by decide)).trans rfl
      have t_80 : a_58 7 = a 7 := (hfr_61 7 (by decide)).trans rfl
      have t_81 : a_58 8 = a 8 := (hfr_61 8 (by decide)).trans rfl
      have b_82 : 0 ≤ g_57 7 ∧ g_57 7 ≤ 1200 := hI.1 7
      refine xr_if_ne (tgt := 54) hx hb dX13_holds_49 (by decide) (by omega) (fun h_83 => ?_) (fun h_83 => ?_)
      · have t_84 : a_58 2 = up (a 2) (g 7) 12 := ((h_56).resolve_left (by omega)).trans (up_c rfl (by omega) (by omega))
        refine lv_aload_n hx hb dX13_holds_54 rfl (lv_at hl 0 rfl) ?_
        refine lv_sipush (v := iI 193) hx hb dX13_holds_55 rfl ?_
        refine jcg_v (va_runV (As := [.int (iI 193)]) (rest := []) ⟨hx, hb, hml, hown, hts⟩ (sX13_push l dC dI _ ad ca g_57 a_58 193 hI (by omega) (by omega)) (cwV 1 hts (jgoodV m_225 m_452 m_453 m_503 m_194) rfl rfl rfl (by decide +kernel) ⟨(Nat.le_of_ble_eq_true rfl), (Nat.le_of_ble_eq_true rfl)⟩) ⟨jw_blind, va_recv hK hP (ci := 13) (q0 := 0) rfl rfl, fun U hU hW => ⟨rfl, jw_of hU hW hP hK hD⟩⟩ rfl rfl hl.1 rfl (lv_room (Nat.le_of_ble_eq_true rfl)) dX13_holds_58 ⟨(Nat.le_of_ble_eq_true rfl), (Nat.le_of_ble_eq_true rfl)⟩) hD hS hA (fun u_92 H locs w_86 hP hK hD hS => ?_)
        obtain ⟨g_90, a_91⟩ := u_92
        obtain ⟨hI, hfr_93, hfr_94, h_88, h_89⟩ := w_86
        have hP : va_P (dC, dI) vwCl (mG ad ca g_90 a_91) H := hP
        have hD : va_D A (mG ad ca g_90 a_91) := hD
        have hfA : ∀ j, j ∉ ([2, 3, 4, 5, 7, 8] : List Nat) → g_90 j = g j := fun j h => (hfr_93 j (fun q => h (by first | exact q | (simp only [List.mem_cons, List.not_mem_nil, or_false] at q ⊢ <;> omega)))).trans (hfA j h)
        have b_96 : g_90 1 = g 1 := hfA 1 (by decide)
        have b_97 : g_90 9 = g 9 := hfA 9 (by decide)
        have b_98 : g_90 12 = g 12 := hfA 12 (by decide)
        have b_99 : g_90 15 = g 15 := hfA 15 (by decide)
        have b_100 := hfr_93 2 (by decide)
        have b_101 := hfr_93 3 (by decide)
        have b_102 := hfr_93 8 (by decide)
        have haA : ∀ j, j ∉ ([2] : List Nat) → a_91 j = a j := fun j h => (hfr_94 j (fun q => h (by first | exact q | (simp only [List.mem_cons, List.not_mem_nil, or_false] at q ⊢ <;> omega)))).trans (haA j h)
        have h_88 : g_90 7 = g_57 7 + 1 := h_88
        have h_89 : a_91 2 = up (a_58 2) (g_57 7) 193 := h_89
        have b_103 : g_90 1 = g_57 1 := hfr_93 1 (by decide)
        have b_104 : g_90 2 = g_57 2 := hfr_93 2 (by decide)
        have b_105 : g_90 3 = g_57 3 := hfr_93 3 (by decide)
        have b_106 : g_90 4 = g_57 4 := hfr_93 4 (by decide)
        have b_107 : g_90 8 = g_57 8 := hfr_93 8 (by decide)
        have b_108 : g_90 9 = g_57 9 := hfr_93 9 (by decide)
        have b_109 : g_90 12 = g_57 12 := hfr_93 12 (by decide)
        have b_110 : g_90 15 = g_57 15 := hfr_93 15 (by decide)
        have t_111 : a_91 2 = up (up (a 2) (g 7) 12) ((g 7 + 1)) 193 := h_89.trans (up_c t_84 (by omega) (by omega))
        have t_112 : a_91 3 = a 3 := (hfr_94 3 (by decide)).trans t_76
        have t_113 : a_91 4 = a 4 := (hfr_94 4 (by decide)).trans t_77
        have t_114 : a_91 5 = a 5 := (hfr_94 5 (by decide)).trans t_78
        have t_115 : a_91 6 = a 6 := (hfr_94 6 (by decide)).trans t_79
        have t_116 : a_91 7 = a 7 := (hfr_94 7 (by decide)).trans t_80
        have t_117 : a_91 8 = a 8 := (hfr_94 8 (by decide)).trans t_81
        have b_118 : 0 ≤ g_90 7 ∧ g_90 7 ≤ 1200 := hI.1 7
        refine lv_aload_n hx hb dX13_holds_61 rfl (lv_at hl 0 rfl) ?_
        refine lv_bipush (v := iI 6) hx hb dX13_holds_62 rfl ?_
        refine jcg_v (va_runV (As := [.int (iI 6)]) (rest := []) ⟨hx, hb, hml, hown, hts⟩ (sX13_push l dC dI _ ad ca g_90 a_91 6 hI (by omega) (by omega)) (cwV 1 hts (jgoodV m_225 m_452 m_453 m_503 m_194) rfl rfl rfl (by decide +kernel) ⟨(Nat.le_of_ble_eq_true rfl), (Nat.le_of_ble_eq_true rfl)⟩) ⟨jw_blind, va_recv hK hP (ci := 13) (q0 := 0) rfl rfl, fun U hU hW => ⟨rfl, jw_of hU hW hP hK hD⟩⟩ rfl rfl hl.1 rfl (lv_room (Nat.le_of_ble_eq_true rfl)) dX13_holds_64 ⟨(Nat.le_of_ble_eq_true rfl), (Nat.le_of_ble_eq_true rfl)⟩) hD hS hA (fun u_126 H locs w_120 hP hK hD hS => ?_)
        obtain ⟨g_124, a_125⟩ := u_126
        obtain ⟨hI, hfr_127, hfr_128, h_122, h_123⟩ := w_120
        have hP : va_P (dC, dI) vwCl (mG ad ca g_124 a_125) H := hP
        have hD : va_D A (mG ad ca g_124 a_125) := hD
        have hfA : ∀ j, j ∉ ([2, 3, 4, 5, 7, 8] : List Nat) → g_124 j = g j := fun j h => (hfr_127 j (fun q => h (by first | exact q | (simp only [List.mem_cons, List.not_mem_nil, or_false] at q ⊢ <;> omega)))).trans (hfA j h)
        have b_130 : g_124 1 = g 1 := hfA 1 (by decide)
        have b_131 : g_124 9 = g 9 := hfA 9 (by decide)
        have b_132 : g_124 12 = g 12 := hfA 12 (by decide)
        have b_133 : g_124 15 = g 15 := hfA 15 (by decide)
        have b_134 := hfr_127 2 (by decide)
        have b_135 := hfr_127 3 (by decide)
        have b_136 := hfr_127 8 (by decide)
        have haA : ∀ j, j ∉ ([2] : List Nat) → a_125 j = a j := fun j h => (hfr_128 j (fun q => h (by first | exact q | (simp only [List.mem_cons, List.not_mem_nil, or_false] at q ⊢ <;> omega)))).trans (haA j h)
        have h_122 : g_124 7 = g_90 7 + 1 := h_122
        have h_123 : a_125 2 = up (a_91 2) (g_90 7) 6 := h_123
        have b_137 : g_124 1 = g_90 1 := hfr_127 1 (by decide)
        have b_138 : g_124 2 = g_90 2 := hfr_127 2 (by decide)
        have b_139 : g_124 3 = g_90 3 := hfr_127 3 (by decide)
        have b_140 : g_124 4 = g_90 4 := hfr_127 4 (by decide)
        have b_141 : g_124 8 = g_90 8 := hfr_127 8 (by decide)
        have b_142 : g_124 9 = g_90 9 := hfr_127 9 (by decide)
        have b_143 : g_124 12 = g_90 12 := hfr_127 12 (by decide)
        have b_144 : g_124 15 = g_90 15 := hfr_127 15 (by decide)
        have t_145 : a_125 2 = up (up (up (a 2) (g 7) 12) ((g 7 + 1)) 193) (((g 7 + 1) + 1)) 6 := h_123.trans (up_c t_111 (by omega) (by omega))
        have t_146 : a_125 3 = a 3 := (hfr_128 3 (by decide)).trans t_112
        have t_147 : a_125 4 = a 4 := (hfr_128 4 (by decide)).trans t_113
        have t_148 : a_125 5 = a 5 := (hfr_128 5 (by decide)).trans t_114
        have t_149 : a_125 6 = a 6 := (hfr_128 6 (by decide)).trans t_115
        have t_150 : a_125 7 = a 7 := (hfr_128 7 (by decide)).trans t_116
        have t_151 : a_125 8 = a 8 := (hfr_128 8 (by decide)).trans t_117
        have b_152 : 0 ≤ g_124 7 ∧ g_124 7 ≤ 1200 := hI.1 7
        refine lv_aload_n hx hb dX13_holds_67 rfl (lv_at hl 0 rfl) ?_
        refine jcg_i (va_runV (As := []) (rest := []) ⟨hx, hb, hml, hown, hts⟩ (sX13_takes l dC dI _ ad ca sK sV g_124 a_125  hI (by omega)) (cwV 0 hts (jgoodV m_228 m_480 m_481 m_503 m_208) rfl rfl rfl (by decide +kernel) ⟨(Nat.le_of_ble_eq_true rfl), (Nat.le_of_ble_eq_true rfl)⟩) ⟨mP_blind, va_recv hK hP (ci := 13) (q0 := 0) rfl rfl, fun U hU hW => ⟨rfl, mP_of hU hW hP hK hD hXs hS (fun _ h => h) hA⟩⟩ rfl rfl hl.1 rfl (lv_room (Nat.le_of_ble_eq_true rfl)) dX13_holds_68 ⟨(Nat.le_of_ble_eq_true rfl), (Nat.le_of_ble_eq_true rfl)⟩) hD hS hA (fun r_153 u_164 H locs w_154 hP hK hD hS => ?_)
        obtain ⟨g_162, a_163⟩ := u_164
        obtain ⟨z_155, rfl, hI, hfr_165, hfr_166, h_156, h_157, h_158, h_159, h_160, h_161⟩ := w_154
        have hP : va_P (dC, dI) vwCl (mG ad ca g_162 a_163) H := hP
        have hD : va_D A (mG ad ca g_162 a_163) := hD
        have hfA : ∀ j, j ∉ ([2, 3, 4, 5, 7, 8] : List Nat) → g_162 j = g j := fun j h => (hfr_165 j (fun q => h (by first | exact q | (simp only [List.mem_cons, List.not_mem_nil, or_false] at q ⊢ <;> omega)))).trans (hfA j h)
        have b_168 : g_162 1 = g 1 := hfA 1 (by decide)
        have b_169 : g_162 9 = g 9 := hfA 9 (by decide)
        have b_170 : g_162 12 = g 12 := hfA 12 (by decide)
        have b_171 : g_162 15 = g 15 := hfA 15 (by decide)
        have b_172 := hfr_165 7 (by decide)
        have b_173 := hfr_165 8 (by decide)
        have haA : ∀ j, j ∉ ([2] : List Nat) → a_163 j = a j := fun j h => (hfr_166 j (fun q => h (by first | exact q | (simp only [List.mem_cons, List.not_mem_nil, or_false] at q ⊢ <;> omega)))).trans (haA j h)
        have h_158 : g_124 2 ≤ g_162 2 := h_158
        have h_159 : g_162 2 ≤ g_124 1 := h_159
        have h_160 : g_162 3 = 0 ∨ g_124 2 + 1 ≤ g_162 2 := h_160
        have h_161 : g_162 4 ≤ g_162 2 := h_161
        have b_174 : g_162 1 = g_124 1 := hfr_165 1 (by decide)
        have b_175 : g_162 7 = g_124 7 := hfr_165 7 (by decide)
        have b_176 : g_162 8 = g_124 8 := hfr_165 8 (by decide)
        have b_177 : g_162 9 = g_124 9 := hfr_165 9 (by decide)
        have b_178 : g_162 12 = g_124 12 := hfr_165 12 (by decide)
        have b_179 : g_162 15 = g_124 15 := hfr_165 15 (by decide)
        have t_180 : a_163 2 = up (up (up (a 2) (g 7) 12) ((g 7 + 1)) 193) (((g 7 + 1) + 1)) 6 := (hfr_166 2 (by decide)).trans t_145
        have t_181 : a_163 3 = a 3 := (hfr_166 3 (by decide)).trans t_146
        have t_182 : a_163 4 = a 4 := (hfr_166 4 (by decide)).trans t_147
        have t_183 : a_163 5 = a 5 := (hfr_166 5 (by decide)).trans t_148
        have t_184 : a_163 6 = a 6 := (hfr_166 6 (by decide)).trans t_149
        have t_185 : a_163 7 = a 7 := (hfr_166 7 (by decide)).trans t_150
        have t_186 : a_163 8 = a 8 := (hfr_166 8 (by decide)).trans t_151
        have b_187 : 0 ≤ g_162 1 ∧ g_162 1 ≤ 600 := hI.1 1
        have b_188 : 0 ≤ g_162 2 ∧ g_162 2 ≤ 600 := hI.1 2
        rw [← hQ]
        exact W.zret (v := iI z_155) (ty := .boolean) hx hb hr (nb_bool (by omega) (by omega)) (fun t ht hW => ⟨⟨iI z_155, (g_162, a_163), rfl, ⟨z_155, rfl, hI, hfA, haA, by omega, by show z_155 = 0 ∨ (rPn g_162 a_163 (g_162 7) ∧ mz g_162 a_163 (g_162 7) < mz g a (g 7 + 1)); first | exact Or.inl rfl | exact Or.inr (st_10n hrP1 (by omega) k1 ⟨by omega, by omega, by omega, by omega, t_181, t_182, t_183, t_184, t_185, t_186⟩ (by omega) (by omega) (by omega) (by omega) ⟨by omega, by omega, by omega⟩ ((t_180).trans (up_c rfl (by omega) rfl))) | exact Or.inr (st_10b hrP1 (by omega) k1 ⟨by omega, by omega, by omega, by omega, t_181, t_182, t_183, t_184, t_185, t_186⟩ (by omega) (by omega) (by omega) (by omega) ⟨by omega, by omega, by omega⟩ ((t_180).trans (up_c rfl (by omega) rfl))) | exact Or.inr (st_10 hrP1 (by omega) k1 ⟨by omega, by omega, by omega, by omega, t_181, t_182, t_183, t_184, t_185, t_186⟩ (by omega) (by omega) (by omega) (by omega) (by omega) t_180)⟩, by rw [ht]; exact hP, va_K.moved hW.alike hK, hD⟩, hS.F ht⟩) hS.2.2 dX13_holds_71
      · refine lv_iconst (v := iI 0) hx hb dX13_holds_52 rfl ?_
        rw [← hQ]
        exact W.zret (v := iI 0) (ty := .boolean) hx hb hr (nb_bool (by omega) (by omega)) (fun t ht hW => ⟨⟨iI 0, (g_57, a_58), rfl, ⟨0, rfl, hI, hfA, haA, by omega, by show 0 = 0 ∨ (rPn g_57 a_58 (g_57 7) ∧ mz g_57 a_58 (g_57 7) < mz g a (g 7 + 1)); first | exact Or.inl rfl | exact Or.inr (st_10n hrP1 (by omega) k1 ⟨by omega, by omega, by omega, by omega, t_76, t_77, t_78, t_79, t_80, t_81⟩ (by omega) (by omega) (by omega) (by omega) ⟨by omega, by omega, by omega⟩ ((rfl).trans (up_c rfl (by omega) rfl))) | exact Or.inr (st_10b hrP1 (by omega) k1 ⟨by omega, by omega, by omega, by omega, t_76, t_77, t_78, t_79, t_80, t_81⟩ (by omega) (by omega) (by omega) (by omega) ⟨by omega, by omega, by omega⟩ ((rfl).trans (up_c rfl (by omega) rfl))) | exact Or.inr (st_10 hrP1 (by omega) k1 ⟨by omega, by omega, by omega, by omega, t_76, t_77, t_78, t_79, t_80, t_81⟩ (by omega) (by omega) (by omega) (by omega) (by omega) rfl)⟩, by rw [ht]; exact hP, va_K.moved hW.alike hK, hD⟩, hS.F ht⟩) hS.2.2 dX13_holds_53
  · refine lv_aload_n hx hb dX13_holds_9 rfl (lv_at hl 0 rfl) ?_
    refine jcg_i (va_runV (As := []) (rest := []) ⟨hx, hb, hml, hown, hts⟩ (sX13_deeper l dC dI _ ad ca g a  hI (by omega) (by omega) (by omega)) (cwV 0 hts (jgoodV m_240 m_318 m_319 m_503 m_124) rfl rfl rfl (by decide +kernel) ⟨(Nat.le_of_ble_eq_true rfl), (Nat.le_of_ble_eq_true rfl)⟩) ⟨jw_blind, va_recv hK hP (ci := 13) (q0 := 0) rfl rfl, fun U hU hW => ⟨rfl, jw_of hU hW hP hK hD⟩⟩ rfl rfl hl.1 rfl (lv_room (Nat.le_of_ble_eq_true rfl)) dX13_holds_10 ⟨(Nat.le_of_ble_eq_true rfl), (Nat.le_of_ble_eq_true rfl)⟩) hD hS hA (fun r_189 u_197 H locs w_190 hP hK hD hS => ?_)
    obtain ⟨g_195, a_196⟩ := u_197
    obtain ⟨z_191, rfl, hI, hfr_198, hfr_199, h_192, h_193, h_194⟩ := w_190
    have hP : va_P (dC, dI) vwCl (mG ad ca g_195 a_196) H := hP
    have hD : va_D A (mG ad ca g_195 a_196) := hD
    have hfA : ∀ j, j ∉ ([2, 3, 4, 5, 7, 8] : List Nat) → g_195 j = g j := fun j h => (hfr_198 j (fun q => h (by first | exact q | (simp only [List.mem_cons, List.not_mem_nil, or_false] at q ⊢ <;> omega)))).trans (hfA j h)
    have b_201 : g_195 1 = g 1 := hfA 1 (by decide)
    have b_202 : g_195 9 = g 9 := hfA 9 (by decide)
    have b_203 : g_195 12 = g 12 := hfA 12 (by decide)
    have b_204 : g_195 15 = g 15 := hfA 15 (by decide)
    have b_205 := hfr_198 2 (by decide)
    have b_206 := hfr_198 3 (by decide)
    have haA : ∀ j, j ∉ ([2] : List Nat) → a_196 j = a j := fun j h => (hfr_199 j (fun q => h (by first | exact q | (simp only [List.mem_cons, List.not_mem_nil, or_false] at q ⊢ <;> omega)))).trans (haA j h)
    have h_193 : (z_191 = 0 ∧ g_195 7 = g 7 ∧ g_195 8 = g 8) ∨ (z_191 = 1 ∧ g 8 ≠ 8 ∧ g_195 7 = g 7 + 1 ∧ g_195 8 = g 8 + 1) := h_193
    have h_194 : z_191 = 0 ∨ a_196 2 = up (a 2) (g 7) 12 := h_194
    have b_207 : g_195 1 = g 1 := hfr_198 1 (by decide)
    have b_208 : g_195 2 = g 2 := hfr_198 2 (by decide)
    have b_209 : g_195 3 = g 3 := hfr_198 3 (by decide)
    have b_210 : g_195 4 = g 4 := hfr_198 4 (by decide)
    have b_211 : g_195 9 = g 9 := hfr_198 9 (by decide)
    have b_212 : g_195 12 = g 12 := hfr_198 12 (by decide)
    have b_213 : g_195 15 = g 15 := hfr_198 15 (by decide)
    have t_214 : a_196 3 = a 3 := (hfr_199 3 (by decide)).trans rfl
    have t_215 : a_196 4 = a 4 := (hfr_199 4 (by decide)).trans rfl
    have t_216 : a_196 5 = a 5 := (hfr_199 5 (by decide)).trans rfl
    have t_217 : a_196 6 = a 6 := (hfr_199 6 (by decide)).trans rfl
    have t_218 : a_196 7 = a 7 := (hfr_199 7 (by decide)).trans rfl
    have t_219 : a_196 8 = a 8 := (hfr_199 8 (by decide)).trans rfl
    have b_220 : 0 ≤ g_195 7 ∧ g_195 7 ≤ 1200 := hI.1 7
    refine xr_if_ne (tgt := 18) hx hb dX13_holds_13 (by decide) (by omega) (fun h_221 => ?_) (fun h_221 => ?_)
    · have t_222 : a_196 2 = up (a 2) (g 7) 12 := ((h_194).resolve_left (by omega)).trans (up_c rfl (by omega) (by omega))
      refine lv_aload_n hx hb dX13_holds_18 rfl (lv_at hl 0 rfl) ?_
      refine lv_sipush (v := iI 1011) hx hb dX13_holds_19 rfl ?_
      refine jcg_v (va_runV (As := [.int (iI 1011)]) (rest := []) ⟨hx, hb, hml, hown, hts⟩ (sX13_push l dC dI _ ad ca g_195 a_196 1011 hI (by omega) (by omega)) (cwV 1 hts (jgoodV m_225 m_452 m_453 m_503 m_194) rfl rfl rfl (by decide +kernel) ⟨(Nat.le_of_ble_eq_true rfl), (Nat.le_of_ble_eq_true rfl)⟩) ⟨jw_blind, va_recv hK hP (ci := 13) (q0 := 0) rfl rfl, fun U hU hW => ⟨rfl, jw_of hU hW hP hK hD⟩⟩ rfl rfl hl.1 rfl (lv_room (Nat.le_of_ble_eq_true rfl)) dX13_holds_22 ⟨(Nat.le_of_ble_eq_true rfl), (Nat.le_of_ble_eq_true rfl)⟩) hD hS hA (fun u_230 H locs w_224 hP hK hD hS => ?_)
      obtain ⟨g_228, a_229⟩ := u_230
      obtain ⟨hI, hfr_231, hfr_232, h_226, h_227⟩ := w_224
      have hP : va_P (dC, dI) vwCl (mG ad ca g_228 a_229) H := hP
      have hD : va_D A (mG ad ca g_228 a_229) := hD
      have hfA : ∀ j, j ∉ ([2, 3, 4, 5, 7, 8] : List Nat) → g_228 j = g j := fun j h => (hfr_231 j (fun q => h (by first | exact q | (simp only [List.mem_cons, List.not_mem_nil, or_false] at q ⊢ <;> omega)))).trans (hfA j h)
      have b_234 : g_228 1 = g 1 := hfA 1 (by decide)
      have b_235 : g_228 9 = g 9 := hfA 9 (by decide)
      have b_236 : g_228 12 = g 12 := hfA 12 (by decide)
      have b_237 : g_228 15 = g 15 := hfA 15 (by decide)
      have b_238 := hfr_231 2 (by decide)
      have b_239 := hfr_231 3 (by decide)
      have b_240 := hfr_231 8 (by decide)
      have haA : ∀ j, j ∉ ([2] : List Nat) → a_229 j = a j := fun j h => (hfr_232 j (fun q => h (by first | exact q | (simp only [List.mem_cons, List.not_mem_nil, or_false] at q ⊢ <;> omega)))).trans (haA j h)
      have h_226 : g_228 7 = g_195 7 + 1 := h_226
      have h_227 : a_229 2 = up (a_196 2) (g_195 7) 1011 := h_227
      have b_241 : g_228 1 = g_195 1 := hfr_231 1 (by decide)
      have b_242 : g_228 2 = g_195 2 := hfr_231 2 (by decide)
      have b_243 : g_228 3 = g_195 3 := hfr_231 3 (by decide)
      have b_244 : g_228 4 = g_195 4 := hfr_231 4 (by decide)
      have b_245 : g_228 8 = g_195 8 := hfr_231 8 (by decide)
      have b_246 : g_228 9 = g_195 9 := hfr_231 9 (by decide)
      have b_247 : g_228 12 = g_195 12 := hfr_231 12 (by decide)
      have b_248 : g_228 15 = g_195 15 := hfr_231 15 (by decide)
      have t_249 : a_229 2 = up (up (a 2) (g 7) 12) ((g 7 + 1)) 1011 := h_227.trans (up_c t_222 (by omega) (by omega))
      have t_250 : a_229 3 = a 3 := (hfr_232 3 (by decide)).trans t_214
      have t_251 : a_229 4 = a 4 := (hfr_232 4 (by decide)).trans t_215
      have t_252 : a_229 5 = a 5 := (hfr_232 5 (by decide)).trans t_216
      have t_253 : a_229 6 = a 6 := (hfr_232 6 (by decide)).trans t_217
      have t_254 : a_229 7 = a 7 := (hfr_232 7 (by decide)).trans t_218
      have t_255 : a_229 8 = a 8 := (hfr_232 8 (by decide)).trans t_219
      have b_256 : 0 ≤ g_228 7 ∧ g_228 7 ≤ 1200 := hI.1 7
      refine lv_aload_n hx hb dX13_holds_25 rfl (lv_at hl 0 rfl) ?_
      refine lv_bipush (v := iI 10) hx hb dX13_holds_26 rfl ?_
      refine jcg_v (va_runV (As := [.int (iI 10)]) (rest := []) ⟨hx, hb, hml, hown, hts⟩ (sX13_push l dC dI _ ad ca g_228 a_229 10 hI (by omega) (by omega)) (cwV 1 hts (jgoodV m_225 m_452 m_453 m_503 m_194) rfl rfl rfl (by decide +kernel) ⟨(Nat.le_of_ble_eq_true rfl), (Nat.le_of_ble_eq_true rfl)⟩) ⟨jw_blind, va_recv hK hP (ci := 13) (q0 := 0) rfl rfl, fun U hU hW => ⟨rfl, jw_of hU hW hP hK hD⟩⟩ rfl rfl hl.1 rfl (lv_room (Nat.le_of_ble_eq_true rfl)) dX13_holds_28 ⟨(Nat.le_of_ble_eq_true rfl), (Nat.le_of_ble_eq_true rfl)⟩) hD hS hA (fun u_264 H locs w_258 hP hK hD hS => ?_)
      obtain ⟨g_262, a_263⟩ := u_264
      obtain ⟨hI, hfr_265, hfr_266, h_260, h_261⟩ := w_258
      have hP : va_P (dC, dI) vwCl (mG ad ca g_262 a_263) H := hP
      have hD : va_D A (mG ad ca g_262 a_263) := hD
      have hfA : ∀ j, j ∉ ([2, 3, 4, 5, 7, 8] : List Nat) → g_262 j = g j := fun j h => (hfr_265 j (fun q => h (by first | exact q | (simp only [List.mem_cons, List.not_mem_nil, or_false] at q ⊢ <;> omega)))).trans (hfA j h)
      have b_268 : g_262 1 = g 1 := hfA 1 (by decide)
      have b_269 : g_262 9 = g 9 := hfA 9 (by decide)
      have b_270 : g_262 12 = g 12 := hfA 12 (by decide)
      have b_271 : g_262 15 = g 15 := hfA 15 (by decide)
      have b_272 := hfr_265 2 (by decide)
      have b_273 := hfr_265 3 (by decide)
      have b_274 := hfr_265 8 (by decide)
      have haA : ∀ j, j ∉ ([2] : List Nat) → a_263 j = a j := fun j h => (hfr_266 j (fun q => h (by first | exact q | (simp only [List.mem_cons, List.not_mem_nil, or_false] at q ⊢ <;> omega)))).trans (haA j h)
      have h_260 : g_262 7 = g_228 7 + 1 := h_260
      have h_261 : a_263 2 = up (a_229 2) (g_228 7) 10 := h_261
      have b_275 : g_262 1 = g_228 1 := hfr_265 1 (by decide)
      have b_276 : g_262 2 = g_228 2 := hfr_265 2 (by decide)
      have b_277 : g_262 3 = g_228 3 := hfr_265 3 (by decide)
      have b_278 : g_262 4 = g_228 4 := hfr_265 4 (by decide)
      have b_279 : g_262 8 = g_228 8 := hfr_265 8 (by decide)
      have b_280 : g_262 9 = g_228 9 := hfr_265 9 (by decide)
      have b_281 : g_262 12 = g_228 12 := hfr_265 12 (by decide)
      have b_282 : g_262 15 = g_228 15 := hfr_265 15 (by decide)
      have t_283 : a_263 2 = up (up (up (a 2) (g 7) 12) ((g 7 + 1)) 1011) (((g 7 + 1) + 1)) 10 := h_261.trans (up_c t_249 (by omega) (by omega))
      have t_284 : a_263 3 = a 3 := (hfr_266 3 (by decide)).trans t_250
      have t_285 : a_263 4 = a 4 := (hfr_266 4 (by decide)).trans t_251
      have t_286 : a_263 5 = a 5 := (hfr_266 5 (by decide)).trans t_252
      have t_287 : a_263 6 = a 6 := (hfr_266 6 (by decide)).trans t_253
      have t_288 : a_263 7 = a 7 := (hfr_266 7 (by decide)).trans t_254
      have t_289 : a_263 8 = a 8 := (hfr_266 8 (by decide)).trans t_255
      have b_290 : 0 ≤ g_262 7 ∧ g_262 7 ≤ 1200 := hI.1 7
      refine lv_aload_n hx hb dX13_holds_31 rfl (lv_at hl 0 rfl) ?_
      refine jcg_i (va_runV (As := []) (rest := []) ⟨hx, hb, hml, hown, hts⟩ (sX13_takes l dC dI _ ad ca sK sV g_262 a_263  hI (by omega)) (cwV 0 hts (jgoodV m_228 m_480 m_481 m_503 m_208) rfl rfl rfl (by decide +kernel) ⟨(Nat.le_of_ble_eq_true rfl), (Nat.le_of_ble_eq_true rfl)⟩) ⟨mP_blind, va_recv hK hP (ci := 13) (q0 := 0) rfl rfl, fun U hU hW => ⟨rfl, mP_of hU hW hP hK hD hXs hS (fun _ h => h) hA⟩⟩ rfl rfl hl.1 rfl (lv_room (Nat.le_of_ble_eq_true rfl)) dX13_holds_32 ⟨(Nat.le_of_ble_eq_true rfl), (Nat.le_of_ble_eq_true rfl)⟩) hD hS hA (fun r_291 u_302 H locs w_292 hP hK hD hS => ?_)
      obtain ⟨g_300, a_301⟩ := u_302
      obtain ⟨z_293, rfl, hI, hfr_303, hfr_304, h_294, h_295, h_296, h_297, h_298, h_299⟩ := w_292
      have hP : va_P (dC, dI) vwCl (mG ad ca g_300 a_301) H := hP
      have hD : va_D A (mG ad ca g_300 a_301) := hD
      have hfA : ∀ j, j ∉ ([2, 3, 4, 5, 7, 8] : List Nat) → g_300 j = g j := fun j h => (hfr_303 j (fun q => h (by first | exact q | (simp only [List.mem_cons, List.not_mem_nil, or_false] at q ⊢ <;> omega)))).trans (hfA j h)
      have b_306 : g_300 1 = g 1 := hfA 1 (by decide)
      have b_307 : g_300 9 = g 9 := hfA 9 (by decide)
      have b_308 : g_300 12 = g 12 := hfA 12 (by decide)
      have b_309 : g_300 15 = g 15 := hfA 15 (by decide)
      have b_310 := hfr_303 7 (by decide)
      have b_311 := hfr_303 8 (by decide)
      have haA : ∀ j, j ∉ ([2] : List Nat) → a_301 j = a j := fun j h => (hfr_304 j (fun q => h (by first | exact q | (simp only [List.mem_cons, List.not_mem_nil, or_false] at q ⊢ <;> omega)))).trans (haA j h)
      have h_296 : g_262 2 ≤ g_300 2 := h_296
      have h_297 : g_300 2 ≤ g_262 1 := h_297
      have h_298 : g_300 3 = 0 ∨ g_262 2 + 1 ≤ g_300 2 := h_298
      have h_299 : g_300 4 ≤ g_300 2 := h_299
      have b_312 : g_300 1 = g_262 1 := hfr_303 1 (by decide)
      have b_313 : g_300 7 = g_262 7 := hfr_303 7 (by decide)
      have b_314 : g_300 8 = g_262 8 := hfr_303 8 (by decide)
      have b_315 : g_300 9 = g_262 9 := hfr_303 9 (by decide)
      have b_316 : g_300 12 = g_262 12 := hfr_303 12 (by decide)
      have b_317 : g_300 15 = g_262 15 := hfr_303 15 (by decide)
      have t_318 : a_301 2 = up (up (up (a 2) (g 7) 12) ((g 7 + 1)) 1011) (((g 7 + 1) + 1)) 10 := (hfr_304 2 (by decide)).trans t_283
      have t_319 : a_301 3 = a 3 := (hfr_304 3 (by decide)).trans t_284
      have t_320 : a_301 4 = a 4 := (hfr_304 4 (by decide)).trans t_285
      have t_321 : a_301 5 = a 5 := (hfr_304 5 (by decide)).trans t_286
      have t_322 : a_301 6 = a 6 := (hfr_304 6 (by decide)).trans t_287
      have t_323 : a_301 7 = a 7 := (hfr_304 7 (by decide)).trans t_288
      have t_324 : a_301 8 = a 8 := (hfr_304 8 (by decide)).trans t_289
      have b_325 : 0 ≤ g_300 1 ∧ g_300 1 ≤ 600 := hI.1 1
      have b_326 : 0 ≤ g_300 2 ∧ g_300 2 ≤ 600 := hI.1 2
      rw [← hQ]
      exact W.zret (v := iI z_293) (ty := .boolean) hx hb hr (nb_bool (by omega) (by omega)) (fun t ht hW => ⟨⟨iI z_293, (g_300, a_301), rfl, ⟨z_293, rfl, hI, hfA, haA, by omega, by show z_293 = 0 ∨ (rPn g_300 a_301 (g_300 7) ∧ mz g_300 a_301 (g_300 7) < mz g a (g 7 + 1)); first | exact Or.inl rfl | exact Or.inr (st_10n hrP1 (by omega) k1 ⟨by omega, by omega, by omega, by omega, t_319, t_320, t_321, t_322, t_323, t_324⟩ (by omega) (by omega) (by omega) (by omega) ⟨by omega, by omega, by omega⟩ ((t_318).trans (up_c rfl (by omega) rfl))) | exact Or.inr (st_10b hrP1 (by omega) k1 ⟨by omega, by omega, by omega, by omega, t_319, t_320, t_321, t_322, t_323, t_324⟩ (by omega) (by omega) (by omega) (by omega) ⟨by omega, by omega, by omega⟩ ((t_318).trans (up_c rfl (by omega) rfl))) | exact Or.inr (st_10 hrP1 (by omega) k1 ⟨by omega, by omega, by omega, by omega, t_319, t_320, t_321, t_322, t_323, t_324⟩ (by omega) (by omega) (by omega) (by omega) (by omega) t_318)⟩, by rw [ht]; exact hP, va_K.moved hW.alike hK, hD⟩, hS.F ht⟩) hS.2.2 dX13_holds_35
    · refine lv_iconst (v := iI 0) hx hb dX13_holds_16 rfl ?_
      rw [← hQ]
      exact W.zret (v := iI 0) (ty := .boolean) hx hb hr (nb_bool (by omega) (by omega)) (fun t ht hW => ⟨⟨iI 0, (g_195, a_196), rfl, ⟨0, rfl, hI, hfA, haA, by omega, by show 0 = 0 ∨ (rPn g_195 a_196 (g_195 7) ∧ mz g_195 a_196 (g_195 7) < mz g a (g 7 + 1)); first | exact Or.inl rfl | exact Or.inr (st_10n hrP1 (by omega) k1 ⟨by omega, by omega, by omega, by omega, t_214, t_215, t_216, t_217, t_218, t_219⟩ (by omega) (by omega) (by omega) (by omega) ⟨by omega, by omega, by omega⟩ ((rfl).trans (up_c rfl (by omega) rfl))) | exact Or.inr (st_10b hrP1 (by omega) k1 ⟨by omega, by omega, by omega, by omega, t_214, t_215, t_216, t_217, t_218, t_219⟩ (by omega) (by omega) (by omega) (by omega) ⟨by omega, by omega, by omega⟩ ((rfl).trans (up_c rfl (by omega) rfl))) | exact Or.inr (st_10 hrP1 (by omega) k1 ⟨by omega, by omega, by omega, by omega, t_214, t_215, t_216, t_217, t_218, t_219⟩ (by omega) (by omega) (by omega) (by omega) (by omega) rfl)⟩, by rw [ht]; exact hP, va_K.moved hW.alike hK, hD⟩, hS.F ht⟩) hS.2.2 dX13_holds_17
set_option maxHeartbeats 2000000 in
set_option maxRecDepth 100000 in
theorem sX13_compares (l : Launch) (dC : Nat → ClassId) (dI : Nat → Nat → Nat) (sz : Nat) (ad : Nat → Nat) (ca : Nat → ClassId) (sK sV : Nat → Nat) (g : Nat → Int) (a : Nat → Int → Int) (hI : mI g a) (k1 : a 2 (g 7) = 11) (hrP1 : rP1 g a) : Met l yX13_compares (jk yX13_compares cX13_compares 1 (some .boolean)) ({ frames := 7, cells := 0, slots := 0, locals := 153 }) (va_Pc [.ref (ad 0)] (mP (dC, dI) (mG ad ca g a) (mT ca) sK sV sz)) (va_Qi (fun (r : Int32) (u : (Nat → Int) × (Nat → Int → Int)) => ∃ z : Int, r = iI z ∧ (mI u.1 u.2) ∧ (∀ j, j ∉ ([2, 3, 4, 5, 7] : List Nat) → u.1 j = g j) ∧ (∀ j, j ∉ ([2] : List Nat) → u.2 j = a j) ∧ (0 ≤ z ∧ z ≤ 1) ∧ (z = 0 ∨ (rPn u.1 u.2 (u.1 7) ∧ mz u.1 u.2 (u.1 7) < mz g a (g 7 + 1)))) (fun u t => va_P (dC, dI) vwCl (mG ad ca u.1 u.2) t.heap ∧ va_K (dC, dI) vwCl (mT ca) t ∧ va_D (va_A (mG ad ca g a) sz) (mG ad ca u.1 u.2)) (va_A (mG ad ca g a) sz)) 0 0 (va_A (mG ad ca g a) sz) := by
  refine Met.ofW (cc := cX13_compares) (maxL := 1) (ret := (some .boolean)) (by decide) rfl ?_
  intro p e s m args below meth c s₁ B hml hv
  obtain ⟨rfl, ⟨hsz, hP, hK, hD0⟩, hX0⟩ := hv
  have hx := B.exec
  have hb := B.bytes
  have hr := B.returns
  have hts := atoms_spec (ws := (jk yX13_compares cX13_compares 1 (some .boolean))) B.pre
  have hj : ∀ w ∈ jw, w.before ([.ref (ad 0)] : List Value).toArray s = true := fun w h => hts w (jm h)
  have hown : s.vm.findClass RX13 = some m.cls := findClass_of_methodNamed B.named
  subst hsz
  have hD := hD0.self (sz := s.heap.size)
  have hXs := hX0
  generalize hAe : (va_A (mG ad ca g a) s.heap.size) = A at hD hXs ⊢
  have hA : ∀ q : Nat, s.heap.size ≤ q → A q := fun q h => by rw [← hAe]; exact Or.inr h
  have hS : va_S A s.heap s.heap [] := va_S.rf
  have hP : va_P (dC, dI) vwCl (mG ad ca g a) s.heap := hP
  have hfA : ∀ j, j ∉ ([2, 3, 4, 5, 7] : List Nat) → g j = g j := fun _ _ => rfl
  have haA : ∀ j, j ∉ ([2] : List Nat) → a j = a j := fun _ _ => rfl
  have hl := lv_entry ([.ref (ad 0)]) (n := 1) (Nat.le_of_ble_eq_true rfl)
  rw [lg_entry_eq]
  generalize (lg_sl ([.ref (ad 0)]) ++ List.replicate (1 - (lg_sl ([.ref (ad 0)])).length) Slot.unset).toArray = ls at hl ⊢
  have hl : lv_has ls 1 [(0, .ref (ad 0))] := hl
  generalize hQ : MQ below (va_Qi (fun (r : Int32) (u : (Nat → Int) × (Nat → Int → Int)) => ∃ z : Int, r = iI z ∧ (mI u.1 u.2) ∧ (∀ j, j ∉ ([2, 3, 4, 5, 7] : List Nat) → u.1 j = g j) ∧ (∀ j, j ∉ ([2] : List Nat) → u.2 j = a j) ∧ (0 ≤ z ∧ z ≤ 1) ∧ (z = 0 ∨ (rPn u.1 u.2 (u.1 7) ∧ mz u.1 u.2 (u.1 7) < mz g a (g 7 + 1)))) (fun u t => va_P (dC, dI) vwCl (mG ad ca u.1 u.2) t.heap ∧ va_K (dC, dI) vwCl (mT ca) t ∧ va_D A (mG ad ca u.1 u.2)) A) ([.ref (ad 0)] : List Value).toArray s 0 0 A = Q
  suffices ST : ∀ (H : Heap) (locs : List Loc), va_P (dC, dI) vwCl (mG ad ca g a) H → va_S A s.heap H locs → W p l e ({ frames := 7, cells := 0, slots := 0, locals := 153 }) s m ([.ref (ad 0)] : List Value).toArray below meth c H locs 0 0 Q (F0 m 0 ls []) from ST _ _ hP hS
  clear hP hS
  intro H locs hP hS
  obtain ⟨bb1, bb2, bb3, bb4, bb5, bb6⟩ := bd_1 hrP1
  have bb7 := tkk_b (g 3)
  have b7_0 : 0 ≤ g 7 ∧ g 7 ≤ 1200 := hI.1 7
  have b1_0 : 0 ≤ g 1 ∧ g 1 ≤ 600 := hI.1 1
  have b2_0 : 0 ≤ g 2 ∧ g 2 ≤ 600 := hI.1 2
  refine lv_aload_n hx hb dX13_compares_0 rfl (lv_at hl 0 rfl) ?_
  refine lv_bipush (v := iI 60) hx hb dX13_compares_1 rfl ?_
  refine jc_i (va_runV (As := [.int (iI 60)]) (rest := []) ⟨hx, hb, hml, hown, hts⟩ (sX13_isSign l dC dI _ ad ca g a 60 hI (by omega)) (cwV 1 hts (jgoodV m_227 m_389 m_390 m_503 m_161) rfl rfl rfl (by decide +kernel) ⟨(Nat.le_of_ble_eq_true rfl), (Nat.le_of_ble_eq_true rfl)⟩) ⟨jw_blind, va_recv hK hP (ci := 13) (q0 := 0) rfl rfl, fun U hU hW => ⟨rfl, jw_of hU hW hP hK hD⟩⟩ rfl rfl hl.1 rfl (lv_room (Nat.le_of_ble_eq_true rfl)) dX13_compares_3 ⟨(Nat.le_of_ble_eq_true rfl), (Nat.le_of_ble_eq_true rfl)⟩) hP hS hA (fun r_1 H locs w_2 hP hS => ?_)
  obtain ⟨z_3, rfl, h_4, h_5⟩ := w_2
  have b_6 : 0 ≤ g 3 ∧ g 3 ≤ 4 := hI.1 3
  have J29 : ∀ (H : Heap) (locs : List Loc) (ls : Array Slot), (g 3 = 3) → va_P (dC, dI) vwCl (mG ad ca g a) H → va_D A (mG ad ca g a) → va_S A s.heap H locs → lv_has ls 1 [(0, .ref (ad 0))] → W p l e ({ frames := 7, cells := 0, slots := 0, locals := 153 }) s m ([.ref (ad 0)] : List Value).toArray below meth c H locs 0 0 Q (F0 m 29 ls []) := by
    intro H locs ls h_7 hP hD hS hl
    refine lv_aload_n hx hb dX13_compares_29 rfl (lv_at hl 0 rfl) ?_
    refine lv_sipush (v := iI 1000) hx hb dX13_compares_30 rfl ?_
    refine lv_aload_n hx hb dX13_compares_33 rfl (lv_at hl 0 rfl) ?_
    refine lv_bipush (v := iI 60) hx hb dX13_compares_34 rfl ?_
    refine jc_i (va_runV (As := [.int (iI 60)]) (rest := [.int (iI 1000), .ref (ad 0)]) ⟨hx, hb, hml, hown, hts⟩ (sX13_isSign l dC dI _ ad ca g a 60 hI (by omega)) (cwV 1 hts (jgoodV m_227 m_389 m_390 m_503 m_161) rfl rfl rfl (by decide +kernel) ⟨(Nat.le_of_ble_eq_true rfl), (Nat.le_of_ble_eq_true rfl)⟩) ⟨jw_blind, va_recv hK hP (ci := 13) (q0 := 0) rfl rfl, fun U hU hW => ⟨rfl, jw_of hU hW hP hK hD⟩⟩ rfl rfl hl.1 rfl (lv_room (Nat.le_of_ble_eq_true rfl)) dX13_compares_36 ⟨(Nat.le_of_ble_eq_true rfl), (Nat.le_of_ble_eq_true rfl)⟩) hP hS hA (fun r_8 H locs w_9 hP hS => ?_)
    obtain ⟨z_10, rfl, h_11, h_12⟩ := w_9
    have b_13 : 0 ≤ g 3 ∧ g 3 ≤ 4 := hI.1 3
    have J63 : ∀ (s0_63 : Int) (H : Heap) (locs : List Loc) (ls : Array Slot), (6 ≤ s0_63 ∧ s0_63 ≤ 8) → (6 ≤ s0_63 ∧ s0_63 ≤ 8) → va_P (dC, dI) vwCl (mG ad ca g a) H → va_D A (mG ad ca g a) → va_S A s.heap H locs → lv_has ls 1 [(0, .ref (ad 0))] → W p l e ({ frames := 7, cells := 0, slots := 0, locals := 153 }) s m ([.ref (ad 0)] : List Value).toArray below meth c H locs 0 0 Q (F0 m 63 ls [.int (iI s0_63), .int (iI 1000), .ref (ad 0)]) := by
      intro s0_63 H locs ls h_14 h_15 hP hD hS hl
      refine xr_add hx hb dX13_compares_63 ?_
      refine jcg_v (va_runV (As := [.int (iI (1000 + s0_63))]) (rest := []) ⟨hx, hb, hml, hown, hts⟩ (sX13_push l dC dI _ ad ca g a (1000 + s0_63) hI (by omega) (by omega)) (cwV 1 hts (jgoodV m_225 m_452 m_453 m_503 m_194) rfl rfl rfl (by decide +kernel) ⟨(Nat.le_of_ble_eq_true rfl), (Nat.le_of_ble_eq_true rfl)⟩) ⟨jw_blind, va_recv hK hP (ci := 13) (q0 := 0) rfl rfl, fun U hU hW => ⟨rfl, jw_of hU hW hP hK hD⟩⟩ rfl rfl hl.1 rfl (lv_room (Nat.le_of_ble_eq_true rfl)) dX13_compares_64 ⟨(Nat.le_of_ble_eq_true rfl), (Nat.le_of_ble_eq_true rfl)⟩) hD hS hA (fun u_23 H locs w_17 hP hK hD hS => ?_)
      obtain ⟨g_21, a_22⟩ := u_23
      obtain ⟨hI, hfr_24, hfr_25, h_19, h_20⟩ := w_17
      have hP : va_P (dC, dI) vwCl (mG ad ca g_21 a_22) H := hP
      have hD : va_D A (mG ad ca g_21 a_22) := hD
      have hfA : ∀ j, j ∉ ([2, 3, 4, 5, 7] : List Nat) → g_21 j = g j := fun j h => (hfr_24 j (fun q => h (by first | exact q | (simp only [List.mem_cons, List.not_mem_nil, or_false] at q ⊢ <;> omega)))).trans (hfA j h)
      have b_27 : g_21 1 = g 1 := hfA 1 (by decide)
      have b_28 : g_21 8 = g 8 := hfA 8 (by decide)
      have b_29 : g_21 9 = g 9 := hfA 9 (by decide)
      have b_30 : g_21 12 = g 12 := hfA 12 (by decide)
      have b_31 : g_21 15 = g 15 := hfA 15 (by decide)
      have b_32 := hfr_24 2 (by decide)
      have b_33 := hfr_24 3 (by decide)
      have haA : ∀ j, j ∉ ([2] : List Nat) → a_22 j = a j := fun j h => (hfr_25 j (fun q => h (by first | exact q | (simp only [List.mem_cons, List.not_mem_nil, or_false] at q ⊢ <;> omega)))).trans (haA j h)
      have h_19 : g_21 7 = g 7 + 1 := h_19
      have h_20 : a_22 2 = up (a 2) (g 7) (1000 + s0_63) := h_20
      have b_34 : g_21 1 = g 1 := hfr_24 1 (by decide)
      have b_35 : g_21 2 = g 2 := hfr_24 2 (by decide)
      have b_36 : g_21 3 = g 3 := hfr_24 3 (by decide)
      have b_37 : g_21 4 = g 4 := hfr_24 4 (by decide)
      have b_38 : g_21 8 = g 8 := hfr_24 8 (by decide)
      have b_39 : g_21 9 = g 9 := hfr_24 9 (by decide)
      have b_40 : g_21 12 = g 12 := hfr_24 12 (by decide)
      have b_41 : g_21 15 = g 15 := hfr_24 15 (by decide)
      have t_42 : a_22 2 = up (a 2) (g 7) (1000 + s0_63) := h_20.trans (up_c rfl (by omega) (by omega))
      have t_43 : a_22 3 = a 3 := (hfr_25 3 (by decide)).trans rfl
      have t_44 : a_22 4 = a 4 := (hfr_25 4 (by decide)).trans rfl
      have t_45 : a_22 5 = a 5 := (hfr_25 5 (by decide)).trans rfl
      have t_46 : a_22 6 = a 6 := (hfr_25 6 (by decide)).trans rfl
      have t_47 : a_22 7 = a 7 := (hfr_25 7 (by decide)).trans rfl
      have t_48 : a_22 8 = a 8 := (hfr_25 8 (by decide)).trans rfl
      have b_49 : 0 ≤ g_21 7 ∧ g_21 7 ≤ 1200 := hI.1 7
      refine lv_aload_n hx hb dX13_compares_67 rfl (lv_at hl 0 rfl) ?_
      refine lv_iconst (v := iI 1) hx hb dX13_compares_68 rfl ?_
      refine jcg_v (va_runV (As := [.int (iI 1)]) (rest := []) ⟨hx, hb, hml, hown, hts⟩ (sX13_push l dC dI _ ad ca g_21 a_22 1 hI (by omega) (by omega)) (cwV 1 hts (jgoodV m_225 m_452 m_453 m_503 m_194) rfl rfl rfl (by decide +kernel) ⟨(Nat.le_of_ble_eq_true rfl), (Nat.le_of_ble_eq_true rfl)⟩) ⟨jw_blind, va_recv hK hP (ci := 13) (q0 := 0) rfl rfl, fun U hU hW => ⟨rfl, jw_of hU hW hP hK hD⟩⟩ rfl rfl hl.1 rfl (lv_room (Nat.le_of_ble_eq_true rfl)) dX13_compares_69 ⟨(Nat.le_of_ble_eq_true rfl), (Nat.le_of_ble_eq_true rfl)⟩) hD hS hA (fun u_57 H locs w_51 hP hK hD hS => ?_)
      obtain ⟨g_55, a_56⟩ := u_57
      obtain ⟨hI, hfr_58, hfr_59, h_53, h_54⟩ := w_51
      have hP : va_P (dC, dI) vwCl (mG ad ca g_55 a_56) H := hP
      have hD : va_D A (mG ad ca g_55 a_56) := hD
      have hfA : ∀ j, j ∉ ([2, 3, 4, 5, 7] : List Nat) → g_55 j = g j := fun j h => (hfr_58 j (fun q => h (by first | exact q | (simp only [List.mem_cons, List.not_mem_nil, or_false] at q ⊢ <;> omega)))).trans (hfA j h)
      have b_61 : g_55 1 = g 1 := hfA 1 (by decide)
      have b_62 : g_55 8 = g 8 := hfA 8 (by decide)
      have b_63 : g_55 9 = g 9 := hfA 9 (by decide)
      have b_64 : g_55 12 = g 12 := hfA 12 (by decide)
      have b_65 : g_55 15 = g 15 := hfA 15 (by decide)
      have b_66 := hfr_58 2 (by decide)
      have b_67 := hfr_58 3 (by decide)
      have haA : ∀ j, j ∉ ([2] : List Nat) → a_56 j = a j := fun j h => (hfr_59 j (fun q => h (by first | exact q | (simp only [List.mem_cons, List.not_mem_nil, or_false] at q ⊢ <;> omega)))).trans (haA j h)
      have h_53 : g_55 7 = g_21 7 + 1 := h_53
      have h_54 : a_56 2 = up (a_22 2) (g_21 7) 1 := h_54
      have b_68 : g_55 1 = g_21 1 := hfr_58 1 (by decide)
      have b_69 : g_55 2 = g_21 2 := hfr_58 2 (by decide)
      have b_70 : g_55 3 = g_21 3 := hfr_58 3 (by decide)
      have b_71 : g_55 4 = g_21 4 := hfr_58 4 (by decide)
      have b_72 : g_55 8 = g_21 8 := hfr_58 8 (by decide)
      have b_73 : g_55 9 = g_21 9 := hfr_58 9 (by decide)
      have b_74 : g_55 12 = g_21 12 := hfr_58 12 (by decide)
      have b_75 : g_55 15 = g_21 15 := hfr_58 15 (by decide)
      have t_76 : a_56 2 = up (up (a 2) (g 7) (1000 + s0_63)) ((g 7 + 1)) 1 := h_54.trans (up_c t_42 (by omega) (by omega))
      have t_77 : a_56 3 = a 3 := (hfr_59 3 (by decide)).trans t_43
      have t_78 : a_56 4 = a 4 := (hfr_59 4 (by decide)).trans t_44
      have t_79 : a_56 5 = a 5 := (hfr_59 5 (by decide)).trans t_45
      have t_80 : a_56 6 = a 6 := (hfr_59 6 (by decide)).trans t_46
      have t_81 : a_56 7 = a 7 := (hfr_59 7 (by decide)).trans t_47
      have t_82 : a_56 8 = a 8 := (hfr_59 8 (by decide)).trans t_48
      have b_83 : 0 ≤ g_55 7 ∧ g_55 7 ≤ 1200 := hI.1 7
      refine lv_aload_n hx hb dX13_compares_72 rfl (lv_at hl 0 rfl) ?_
      refine jcg_i (va_runV (As := []) (rest := []) ⟨hx, hb, hml, hown, hts⟩ (sX13_takes l dC dI _ ad ca sK sV g_55 a_56  hI (by omega)) (cwV 0 hts (jgoodV m_228 m_480 m_481 m_503 m_208) rfl rfl rfl (by decide +kernel) ⟨(Nat.le_of_ble_eq_true rfl), (Nat.le_of_ble_eq_true rfl)⟩) ⟨mP_blind, va_recv hK hP (ci := 13) (q0 := 0) rfl rfl, fun U hU hW => ⟨rfl, mP_of hU hW hP hK hD hXs hS (fun _ h => h) hA⟩⟩ rfl rfl hl.1 rfl (lv_room (Nat.le_of_ble_eq_true rfl)) dX13_compares_73 ⟨(Nat.le_of_ble_eq_true rfl), (Nat.le_of_ble_eq_true rfl)⟩) hD hS hA (fun r_84 u_95 H locs w_85 hP hK hD hS => ?_)
      obtain ⟨g_93, a_94⟩ := u_95
      obtain ⟨z_86, rfl, hI, hfr_96, hfr_97, h_87, h_88, h_89, h_90, h_91, h_92⟩ := w_85
      have hP : va_P (dC, dI) vwCl (mG ad ca g_93 a_94) H := hP
      have hD : va_D A (mG ad ca g_93 a_94) := hD
      have hfA : ∀ j, j ∉ ([2, 3, 4, 5, 7] : List Nat) → g_93 j = g j := fun j h => (hfr_96 j (fun q => h (by first | exact q | (simp only [List.mem_cons, List.not_mem_nil, or_false] at q ⊢ <;> omega)))).trans (hfA j h)
      have b_99 : g_93 1 = g 1 := hfA 1 (by decide)
      have b_100 : g_93 8 = g 8 := hfA 8 (by decide)
      have b_101 : g_93 9 = g 9 := hfA 9 (by decide)
      have b_102 : g_93 12 = g 12 := hfA 12 (by decide)
      have b_103 : g_93 15 = g 15 := hfA 15 (by decide)
      have b_104 := hfr_96 7 (by decide)
      have haA : ∀ j, j ∉ ([2] : List Nat) → a_94 j = a j := fun j h => (hfr_97 j (fun q => h (by first | exact q | (simp only [List.mem_cons, List.not_mem_nil, or_false] at q ⊢ <;> omega)))).trans (haA j h)
      have h_89 : g_55 2 ≤ g_93 2 := h_89
      have h_90 : g_93 2 ≤ g_55 1 := h_90
      have h_91 : g_93 3 = 0 ∨ g_55 2 + 1 ≤ g_93 2 := h_91
      have h_92 : g_93 4 ≤ g_93 2 := h_92
      have b_105 : g_93 1 = g_55 1 := hfr_96 1 (by decide)
      have b_106 : g_93 7 = g_55 7 := hfr_96 7 (by decide)
      have b_107 : g_93 8 = g_55 8 := hfr_96 8 (by decide)
      have b_108 : g_93 9 = g_55 9 := hfr_96 9 (by decide)
      have b_109 : g_93 12 = g_55 12 := hfr_96 12 (by decide)
      have b_110 : g_93 15 = g_55 15 := hfr_96 15 (by decide)
      have t_111 : a_94 2 = up (up (a 2) (g 7) (1000 + s0_63)) ((g 7 + 1)) 1 := (hfr_97 2 (by decide)).trans t_76
      have t_112 : a_94 3 = a 3 := (hfr_97 3 (by decide)).trans t_77
      have t_113 : a_94 4 = a 4 := (hfr_97 4 (by decide)).trans t_78
      have t_114 : a_94 5 = a 5 := (hfr_97 5 (by decide)).trans t_79
      have t_115 : a_94 6 = a 6 := (hfr_97 6 (by decide)).trans t_80
      have t_116 : a_94 7 = a 7 := (hfr_97 7 (by decide)).trans t_81
      have t_117 : a_94 8 = a 8 := (hfr_97 8 (by decide)).trans t_82
      have b_118 : 0 ≤ g_93 1 ∧ g_93 1 ≤ 600 := hI.1 1
      have b_119 : 0 ≤ g_93 2 ∧ g_93 2 ≤ 600 := hI.1 2
      rw [← hQ]
      exact W.zret (v := iI z_86) (ty := .boolean) hx hb hr (nb_bool (by omega) (by omega)) (fun t ht hW => ⟨⟨iI z_86, (g_93, a_94), rfl, ⟨z_86, rfl, hI, hfA, haA, by omega, by show z_86 = 0 ∨ (rPn g_93 a_94 (g_93 7) ∧ mz g_93 a_94 (g_93 7) < mz g a (g 7 + 1)); first | exact Or.inl rfl | exact Or.inr (st_11 (by omega) hrP1 (by omega) k1 ⟨by omega, by omega, by omega, by omega, t_112, t_113, t_114, t_115, t_116, t_117⟩ (by omega) (by omega) (by omega) (by omega) ⟨by omega, by omega, by omega⟩ t_111)⟩, by rw [ht]; exact hP, va_K.moved hW.alike hK, hD⟩, hS.F ht⟩) hS.2.2 dX13_compares_76
    refine xr_if_eq (tgt := 47) hx hb dX13_compares_39 (by decide) (by omega) (fun h_120 => ?_) (fun h_120 => ?_)
    · refine lv_aload_n hx hb dX13_compares_47 rfl (lv_at hl 0 rfl) ?_
      refine lv_bipush (v := iI 62) hx hb dX13_compares_48 rfl ?_
      refine jc_i (va_runV (As := [.int (iI 62)]) (rest := [.int (iI 1000), .ref (ad 0)]) ⟨hx, hb, hml, hown, hts⟩ (sX13_isSign l dC dI _ ad ca g a 62 hI (by omega)) (cwV 1 hts (jgoodV m_227 m_389 m_390 m_503 m_161) rfl rfl rfl (by decide +kernel) ⟨(Nat.le_of_ble_eq_true rfl), (Nat.le_of_ble_eq_true rfl)⟩) ⟨jw_blind, va_recv hK hP (ci := 13) (q0 := 0) rfl rfl, fun U hU hW => ⟨rfl, jw_of hU hW hP hK hD⟩⟩ rfl rfl hl.1 rfl (lv_room (Nat.le_of_ble_eq_true rfl)) dX13_compares_50 ⟨(Nat.le_of_ble_eq_true rfl), (Nat.le_of_ble_eq_true rfl)⟩) hP hS hA (fun r_121 H locs w_122 hP hS => ?_)
      obtain ⟨z_123, rfl, h_124, h_125⟩ := w_122
      have b_126 : 0 ≤ g 3 ∧ g 3 ≤ 4 := hI.1 3
      refine xr_if_eq (tgt := 61) hx hb dX13_compares_53 (by decide) (by omega) (fun h_127 => ?_) (fun h_127 => ?_)
      · refine lv_bipush (v := iI 8) hx hb dX13_compares_61 rfl ?_
        exact J63 8 H locs ls (by omega) (by omega) hP hD hS hl
      · refine lv_bipush (v := iI 7) hx hb dX13_compares_56 rfl ?_
        refine lv_goto (tgt := 63) hx hb dX13_compares_58 (by decide) ?_
        exact J63 7 H locs ls (by omega) (by omega) hP hD hS hl
    · refine lv_bipush (v := iI 6) hx hb dX13_compares_42 rfl ?_
      refine lv_goto (tgt := 63) hx hb dX13_compares_44 (by decide) ?_
      exact J63 6 H locs ls (by omega) (by omega) hP hD hS hl
  refine xr_if_ne (tgt := 29) hx hb dX13_compares_6 (by decide) (by omega) (fun h_128 => ?_) (fun h_128 => ?_)
  · exact J29 H locs ls (by omega) hP hD hS hl
  · refine lv_aload_n hx hb dX13_compares_9 rfl (lv_at hl 0 rfl) ?_
    refine lv_bipush (v := iI 62) hx hb dX13_compares_10 rfl ?_
    refine jc_i (va_runV (As := [.int (iI 62)]) (rest := []) ⟨hx, hb, hml, hown, hts⟩ (sX13_isSign l dC dI _ ad ca g a 62 hI (by omega)) (cwV 1 hts (jgoodV m_227 m_389 m_390 m_503 m_161) rfl rfl rfl (by decide +kernel) ⟨(Nat.le_of_ble_eq_true rfl), (Nat.le_of_ble_eq_true rfl)⟩) ⟨jw_blind, va_recv hK hP (ci := 13) (q0 := 0) rfl rfl, fun U hU hW => ⟨rfl, jw_of hU hW hP hK hD⟩⟩ rfl rfl hl.1 rfl (lv_room (Nat.le_of_ble_eq_true rfl)) dX13_compares_12 ⟨(Nat.le_of_ble_eq_true rfl), (Nat.le_of_ble_eq_true rfl)⟩) hP hS hA (fun r_129 H locs w_130 hP hS => ?_)
    obtain ⟨z_131, rfl, h_132, h_133⟩ := w_130
    have b_134 : 0 ≤ g 3 ∧ g 3 ≤ 4 := hI.1 3
    refine xr_if_ne (tgt := 29) hx hb dX13_compares_15 (by decide) (by omega) (fun h_135 => ?_) (fun h_135 => ?_)
    · exact J29 H locs ls (by omega) hP hD hS hl
    · refine lv_aload_n hx hb dX13_compares_18 rfl (lv_at hl 0 rfl) ?_
      refine lv_bipush (v := iI 61) hx hb dX13_compares_19 rfl ?_
      refine jc_i (va_runV (As := [.int (iI 61)]) (rest := []) ⟨hx, hb, hml, hown, hts⟩ (sX13_isSign l dC dI _ ad ca g a 61 hI (by omega)) (cwV 1 hts (jgoodV m_227 m_389 m_390 m_503 m_161) rfl rfl rfl (by decide +kernel) ⟨(Nat.le_of_ble_eq_true rfl), (Nat.le_of_ble_eq_true rfl)⟩) ⟨jw_blind, va_recv hK hP (ci := 13) (q0 := 0) rfl rfl, fun U hU hW => ⟨rfl, jw_of hU hW hP hK hD⟩⟩ rfl rfl hl.1 rfl (lv_room (Nat.le_of_ble_eq_true rfl)) dX13_compares_21 ⟨(Nat.le_of_ble_eq_true rfl), (Nat.le_of_ble_eq_true rfl)⟩) hP hS hA (fun r_136 H locs w_137 hP hS => ?_)
      obtain ⟨z_138, rfl, h_139, h_140⟩ := w_137
      have b_141 : 0 ≤ g 3 ∧ g 3 ≤ 4 := hI.1 3
      refine xr_if_ne (tgt := 29) hx hb dX13_compares_24 (by decide) (by omega) (fun h_142 => ?_) (fun h_142 => ?_)
      · exact J29 H locs ls (by omega) hP hD hS hl
      · refine lv_iconst (v := iI 0) hx hb dX13_compares_27 rfl ?_
        rw [← hQ]
        exact W.zret (v := iI 0) (ty := .boolean) hx hb hr (nb_bool (by omega) (by omega)) (fun t ht hW => ⟨⟨iI 0, (g, a), rfl, ⟨0, rfl, hI, hfA, haA, by omega, by show 0 = 0 ∨ (rPn g a (g 7) ∧ mz g a (g 7) < mz g a (g 7 + 1)); first | exact Or.inl rfl | exact Or.inr (st_11 (by omega) hrP1 (by omega) k1 ⟨by omega, by omega, by omega, by omega, rfl, rfl, rfl, rfl, rfl, rfl⟩ (by omega) (by omega) (by omega) (by omega) ⟨by omega, by omega, by omega⟩ rfl)⟩, by rw [ht]; exact hP, va_K.moved hW.alike hK, hD⟩, hS.F ht⟩) hS.2.2 dX13_compares_28
