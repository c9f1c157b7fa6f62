set_option maxHeartbeats 2000000 in
set_option maxRecDepth 100000 in
theorem sX13_holds (l : Launch) (dC : Nat → ClassId) (dI : Nat → Nat → Nat) (sz : Nat) (ad : Nat → Nat) (ca : Nat → ClassId) (sK sV : Nat → Nat) (g : Nat → Int) (a : Nat → Int → Int) (tT : Int → Int) (tN : Int) (hI : mI g a) (k1 : a 2 (g 7) = 10) (hrP1 : rP1 g a) (hrTx : txR tT tN g a) (hrTk : tkR tT tN g a) : Met l yX13_holds (jk yX13_holds cX13_holds 1 (some .boolean)) ({ frames := 7, cells := 0, slots := 0, locals := 153 }) (va_Pc [.ref (ad 0)] (mP (dC, dI) (mG ad ca g a) (mT ca) sK sV sz)) (va_Qi (fun (r : Int32) (u : (Nat → Int) × (Nat → Int → Int)) => ∃ z : Int, r = iI z ∧ (mI u.1 u.2) ∧ (∀ j, j ∉ ([2, 3, 4, 5, 7, 8] : List Nat) → u.1 j = g j) ∧ (∀ j, j ∉ ([2] : List Nat) → u.2 j = a j) ∧ (0 ≤ z ∧ z ≤ 1) ∧ (z = 0 ∨ (rPn u.1 u.2 (u.1 7) ∧ mz u.1 u.2 (u.1 7) < mz g a (g 7 + 1))) ∧ (tkR tT tN u.1 u.2) ∧ (nst tT tN g a u.1 u.2 z)) (fun u t => va_P (dC, dI) vwCl (mG ad ca u.1 u.2) t.heap ∧ va_K (dC, dI) vwCl (mT ca) t ∧ va_D (va_A (mG ad ca g a) sz) (mG ad ca u.1 u.2)) (va_A (mG ad ca g a) sz)) 0 0 (va_A (mG ad ca g a) sz) := by
  refine Met.ofW (cc := cX13_holds) (maxL := 1) (ret := (some .boolean)) (by decide) rfl ?_
  intro p e s m args below meth c s₁ B hml hv
  obtain ⟨rfl, ⟨hsz, hP, hK, hD0⟩, hX0⟩ := hv
  have hx := B.exec
  have hb := B.bytes
  have hr := B.returns
  have hts := atoms_spec (ws := (jk yX13_holds cX13_holds 1 (some .boolean))) B.pre
  have hj : ∀ w ∈ jw, w.before ([.ref (ad 0)] : List Value).toArray s = true := fun w h => hts w (jm h)
  have hown : s.vm.findClass RX13 = some m.cls := findClass_of_methodNamed B.named
  subst hsz
  have hD := hD0.self (sz := s.heap.size)
  have hXs := hX0
  generalize hAe : (va_A (mG ad ca g a) s.heap.size) = A at hD hXs ⊢
  have hA : ∀ q : Nat, s.heap.size ≤ q → A q := fun q h => by rw [← hAe]; exact Or.inr h
  have hS : va_S A s.heap s.heap [] := va_S.rf
  have hP : va_P (dC, dI) vwCl (mG ad ca g a) s.heap := hP
  have hfA : ∀ j, j ∉ ([2, 3, 4, 5, 7, 8] : List Nat) → g j = g j := fun _ _ => rfl
  have haA : ∀ j, j ∉ ([2] : List Nat) → a j = a j := fun _ _ => rfl
  have hl := lv_entry ([.ref (ad 0)]) (n := 1) (Nat.le_of_ble_eq_true rfl)
  rw [lg_entry_eq]
  generalize (lg_sl ([.ref (ad 0)]) ++ List.replicate (1 - (lg_sl ([.ref (ad 0)])).length) Slot.unset).toArray = ls at hl ⊢
  have hl : lv_has ls 1 [(0, .ref (ad 0))] := hl
  generalize hQ : MQ below (va_Qi (fun (r : Int32) (u : (Nat → Int) × (Nat → Int → Int)) => ∃ z : Int, r = iI z ∧ (mI u.1 u.2) ∧ (∀ j, j ∉ ([2, 3, 4, 5, 7, 8] : List Nat) → u.1 j = g j) ∧ (∀ j, j ∉ ([2] : List Nat) → u.2 j = a j) ∧ (0 ≤ z ∧ z ≤ 1) ∧ (z = 0 ∨ (rPn u.1 u.2 (u.1 7) ∧ mz u.1 u.2 (u.1 7) < mz g a (g 7 + 1))) ∧ (tkR tT tN u.1 u.2) ∧ (nst tT tN g a u.1 u.2 z)) (fun u t => va_P (dC, dI) vwCl (mG ad ca u.1 u.2) t.heap ∧ va_K (dC, dI) vwCl (mT ca) t ∧ va_D A (mG ad ca u.1 u.2)) A) ([.ref (ad 0)] : List Value).toArray s 0 0 A = Q
  suffices ST : ∀ (H : Heap) (locs : List Loc), va_P (dC, dI) vwCl (mG ad ca g a) H → va_S A s.heap H locs → W p l e ({ frames := 7, cells := 0, slots := 0, locals := 153 }) s m ([.ref (ad 0)] : List Value).toArray below meth c H locs 0 0 Q (F0 m 0 ls []) from ST _ _ hP hS
  clear hP hS
  intro H locs hP hS
  obtain ⟨bb1, bb2, bb3, bb4, bb5, bb6⟩ := bd_1 hrP1
  have bb7 := tkk_b (g 3)
  have b7_0 : 0 ≤ g 7 ∧ g 7 ≤ 1200 := hI.1 7
  have b1_0 : 0 ≤ g 1 ∧ g 1 ≤ 600 := hI.1 1
  have b2_0 : 0 ≤ g 2 ∧ g 2 ≤ 600 := hI.1 2
  refine lv_aload_n hx hb dX13_holds_0 rfl (lv_at hl 0 rfl) ?_
  refine lv_bipush (v := iI 27) hx hb dX13_holds_1 rfl ?_
  refine jc_i (va_runV (As := [.int (iI 27)]) (rest := []) ⟨hx, hb, hml, hown, hts⟩ (sX13_isWord l dC dI _ ad ca g a 27 hI (by omega)) (cwV 1 hts (jgoodV m_236 m_396 m_397 m_503 m_165) rfl rfl rfl (by decide +kernel) ⟨(Nat.le_of_ble_eq_true rfl), (Nat.le_of_ble_eq_true rfl)⟩) ⟨jw_blind, va_recv hK hP (ci := 13) (q0 := 0) rfl rfl, fun U hU hW => ⟨rfl, jw_of hU hW hP hK hD⟩⟩ rfl rfl hl.1 rfl (lv_room (Nat.le_of_ble_eq_true rfl)) dX13_holds_3 ⟨(Nat.le_of_ble_eq_true rfl), (Nat.le_of_ble_eq_true rfl)⟩) hP hS hA (fun r_1 H locs w_2 hP hS => ?_)
  obtain ⟨z_3, rfl, h_4, h_5⟩ := w_2
  have b_6 : 0 ≤ g 3 ∧ g 3 ≤ 4 := hI.1 3
  refine xr_if_eq (tgt := 36) hx hb dX13_holds_6 (by decide) (by omega) (fun h_7 => ?_) (fun h_7 => ?_)
  · refine lv_aload_n hx hb dX13_holds_36 rfl (lv_at hl 0 rfl) ?_
    refine lv_bipush (v := iI 91) hx hb dX13_holds_37 rfl ?_
    refine jc_i (va_runV (As := [.int (iI 91)]) (rest := []) ⟨hx, hb, hml, hown, hts⟩ (sX13_isSign l dC dI _ ad ca g a 91 hI (by omega)) (cwV 1 hts (jgoodV m_227 m_389 m_390 m_503 m_161) rfl rfl rfl (by decide +kernel) ⟨(Nat.le_of_ble_eq_true rfl), (Nat.le_of_ble_eq_true rfl)⟩) ⟨jw_blind, va_recv hK hP (ci := 13) (q0 := 0) rfl rfl, fun U hU hW => ⟨rfl, jw_of hU hW hP hK hD⟩⟩ rfl rfl hl.1 rfl (lv_room (Nat.le_of_ble_eq_true rfl)) dX13_holds_39 ⟨(Nat.le_of_ble_eq_true rfl), (Nat.le_of_ble_eq_true rfl)⟩) hP hS hA (fun r_8 H locs w_9 hP hS => ?_)
    obtain ⟨z_10, rfl, h_11, h_12⟩ := w_9
    have b_13 : 0 ≤ g 3 ∧ g 3 ≤ 4 := hI.1 3
    refine xr_if_eq (tgt := 72) hx hb dX13_holds_42 (by decide) (by omega) (fun h_14 => ?_) (fun h_14 => ?_)
    · refine lv_aload_n hx hb dX13_holds_72 rfl (lv_at hl 0 rfl) ?_
      refine lv_bipush (v := iI 11) hx hb dX13_holds_73 rfl ?_
      refine lv_iconst (v := iI 1) hx hb dX13_holds_75 rfl ?_
      refine jcg_i (va_runV (As := [.int (iI 11), .int (iI 1)]) (rest := []) ⟨hx, hb, hml, hown, hts⟩ (sX13_both l dC dI _ ad ca g a 11 1 hI (by omega) (by omega) (by omega)) (cwV 2 hts (jgoodV m_230 m_295 m_296 m_503 m_112) rfl rfl rfl (by decide +kernel) ⟨(Nat.le_of_ble_eq_true rfl), (Nat.le_of_ble_eq_true rfl)⟩) ⟨jw_blind, va_recv hK hP (ci := 13) (q0 := 0) rfl rfl, fun U hU hW => ⟨rfl, jw_of hU hW hP hK hD⟩⟩ rfl rfl hl.1 rfl (lv_room (Nat.le_of_ble_eq_true rfl)) dX13_holds_76 ⟨(Nat.le_of_ble_eq_true rfl), (Nat.le_of_ble_eq_true rfl)⟩) hD hS hA (fun r_15 u_24 H locs w_16 hP hK hD hS => ?_)
      obtain ⟨g_22, a_23⟩ := u_24
      obtain ⟨z_17, rfl, hI, hfr_25, hfr_26, h_18, h_19, h_20, h_21⟩ := w_16
      have hP : va_P (dC, dI) vwCl (mG ad ca g_22 a_23) H := hP
      have hD : va_D A (mG ad ca g_22 a_23) := hD
      have hfA : ∀ j, j ∉ ([2, 3, 4, 5, 7, 8] : List Nat) → g_22 j = g j := fun j h => (hfr_25 j (fun q => h (by first | exact q | (simp only [List.mem_cons, List.not_mem_nil, or_false] at q ⊢ <;> omega)))).trans (hfA j h)
      have b_28 : g_22 1 = g 1 := hfA 1 (by decide)
      have b_29 : g_22 9 = g 9 := hfA 9 (by decide)
      have b_30 : g_22 12 = g 12 := hfA 12 (by decide)
      have b_31 : g_22 15 = g 15 := hfA 15 (by decide)
      have b_32 := hfr_25 2 (by decide)
      have b_33 := hfr_25 3 (by decide)
      have b_34 := hfr_25 4 (by decide)
      have b_35 := hfr_25 5 (by decide)
      have b_36 := hfr_25 8 (by decide)
      have haA : ∀ j, j ∉ ([2] : List Nat) → a_23 j = a j := fun j h => (hfr_26 j (fun q => h (by first | exact q | (simp only [List.mem_cons, List.not_mem_nil, or_false] at q ⊢ <;> omega)))).trans (haA j h)
      have h_19 : g_22 7 = g 7 + 2 := h_19
      have h_20 : a_23 2 = up (up (a 2) (g 7) 11) (g 7 + 1) 1 := h_20
      have b_37 : g_22 1 = g 1 := hfr_25 1 (by decide)
      have b_38 : g_22 2 = g 2 := hfr_25 2 (by decide)
      have b_39 : g_22 3 = g 3 := hfr_25 3 (by decide)
      have b_40 : g_22 4 = g 4 := hfr_25 4 (by decide)
      have b_41 : g_22 8 = g 8 := hfr_25 8 (by decide)
      have b_42 : g_22 9 = g 9 := hfr_25 9 (by decide)
      have b_43 : g_22 12 = g 12 := hfr_25 12 (by decide)
      have b_44 : g_22 15 = g 15 := hfr_25 15 (by decide)
      have b_45 : g_22 5 = g 5 := hfr_25 5 (by decide)
      have t_46 : a_23 2 = up (up (a 2) (g 7) 11) (g 7 + 1) 1 := h_20.trans (up_c (up_c rfl (by omega) (by omega)) (by omega) (by omega))
      have t_47 : a_23 3 = a 3 := (hfr_26 3 (by decide)).trans rfl
      have t_48 : a_23 4 = a 4 := (hfr_26 4 (by decide)).trans rfl
      have t_49 : a_23 5 = a 5 := (hfr_26 5 (by decide)).trans rfl
      have t_50 : a_23 6 = a 6 := (hfr_26 6 (by decide)).trans rfl
      have t_51 : a_23 7 = a 7 := (hfr_26 7 (by decide)).trans rfl
      have t_52 : a_23 8 = a 8 := (hfr_26 8 (by decide)).trans rfl
      have b_53 : 0 ≤ g_22 7 ∧ g_22 7 ≤ 1200 := hI.1 7
      rw [← hQ]
      exact W.zret (v := iI z_17) (ty := .boolean) hx hb hr (nb_bool (by omega) (by omega)) (fun t ht hW => ⟨⟨iI z_17, (g_22, a_23), rfl, ⟨z_17, rfl, hI, hfA, haA, by omega, by show z_17 = 0 ∨ (rPn g_22 a_23 (g_22 7) ∧ mz g_22 a_23 (g_22 7) < mz g a (g 7 + 1)); first | exact Or.inl rfl | exact Or.inr (st_10n hrP1 (by omega) k1 ⟨by omega, by omega, by omega, by omega, t_47, t_48, t_49, t_50, t_51, t_52⟩ (by omega) (by omega) (by omega) (by omega) ⟨by omega, by omega, by omega⟩ ((t_46).trans (up_c rfl (by omega) rfl))) | exact Or.inr (st_10b hrP1 (by omega) k1 ⟨by omega, by omega, by omega, by omega, t_47, t_48, t_49, t_50, t_51, t_52⟩ (by omega) (by omega) (by omega) (by omega) ⟨by omega, by omega, by omega⟩ ((t_46).trans (up_c rfl (by omega) rfl))) | exact Or.inr (st_10 hrP1 (by omega) k1 ⟨by omega, by omega, by omega, by omega, t_47, t_48, t_49, t_50, t_51, t_52⟩ (by omega) (by omega) (by omega) (by omega) (by omega) t_46), by show tkR tT tN g_22 a_23; first | assumption | exact tkR_t (by omega) (by omega) (by omega) (by omega) _ | exact tkR_t (by omega) (by omega) (by omega) (by omega) hrTk, by show nst tT tN g a g_22 a_23 z_17; first | exact nst_n (by omega) (by omega) (nf_10 hrTk k1 (by omega) (by omega) (by omega)) | exact nst_y (by omega) (by omega) (nt_10n hrTk (by omega) (by omega) (by omega) k1 (by omega) (by omega) (by omega) t_49 (by omega) ((t_46).trans (up_c rfl (by omega) rfl))) | exact nst_y (by omega) (by omega) (nt_10b hrTk (by omega) (by omega) (by omega) k1 (by omega) (by omega) (by omega) t_49 (by omega) ((t_46).trans (up_c rfl (by omega) rfl))) | exact nst_y (by omega) (by omega) (nt_10 hrTk (by omega) (by omega) k1 (by omega) (by omega) (by omega) t_49 (by omega) t_46)⟩, by rw [ht]; exact hP, va_K.moved hW.alike hK, hD⟩, hS.F ht⟩) hS.2.2 dX13_holds_79
    · refine lv_aload_n hx hb dX13_holds_45 rfl (lv_at hl 0 rfl) ?_
      refine jcg_i (va_runV (As := []) (rest := []) ⟨hx, hb, hml, hown, hts⟩ (sX13_deeper l dC dI _ ad ca g a  hI (by omega) (by omega) (by omega)) (cwV 0 hts (jgoodV m_240 m_318 m_319 m_503 m_124) rfl rfl rfl (by decide +kernel) ⟨(Nat.le_of_ble_eq_true rfl), (Nat.le_of_ble_eq_true rfl)⟩) ⟨jw_blind, va_recv hK hP (ci := 13) (q0 := 0) rfl rfl, fun U hU hW => ⟨rfl, jw_of hU hW hP hK hD⟩⟩ rfl rfl hl.1 rfl (lv_room (Nat.le_of_ble_eq_true rfl)) dX13_holds_46 ⟨(Nat.le_of_ble_eq_true rfl), (Nat.le_of_ble_eq_true rfl)⟩) hD hS hA (fun r_54 u_62 H locs w_55 hP hK hD hS => ?_)
      obtain ⟨g_60, a_61⟩ := u_62
      obtain ⟨z_56, rfl, hI, hfr_63, hfr_64, h_57, h_58, h_59⟩ := w_55
      have hP : va_P (dC, dI) vwCl (mG ad ca g_60 a_61) H := hP
      have hD : va_D A (mG ad ca g_60 a_61) := hD
      have hfA : ∀ j, j ∉ ([2, 3, 4, 5, 7, 8] : List Nat) → g_60 j = g j := fun j h => (hfr_63 j (fun q => h (by first | exact q | (simp only [List.mem_cons, List.not_mem_nil, or_false] at q ⊢ <;> omega)))).trans (hfA j h)
      have b_66 : g_60 1 = g 1 := hfA 1 (by decide)
      have b_67 : g_60 9 = g 9 := hfA 9 (by decide)
      have b_68 : g_60 12 = g 12 := hfA 12 (by decide)
      have b_69 : g_60 15 = g 15 := hfA 15 (by decide)
      have b_70 := hfr_63 2 (by decide)
      have b_71 := hfr_63 3 (by decide)
      have b_72 := hfr_63 4 (by decide)
      have b_73 := hfr_63 5 (by decide)
      have haA : ∀ j, j ∉ ([2] : List Nat) → a_61 j = a j := fun j h => (hfr_64 j (fun q => h (by first | exact q | (simp only [List.mem_cons, List.not_mem_nil, or_false] at q ⊢ <;> omega)))).trans (haA j h)
      have h_58 : (z_56 = 0 ∧ g 8 = 8 ∧ g_60 7 = g 7 ∧ g_60 8 = g 8) ∨ (z_56 = 1 ∧ g 8 ≠ 8 ∧ g_60 7 = g 7 + 1 ∧ g_60 8 = g 8 + 1) := h_58
      have h_59 : z_56 = 0 ∨ a_61 2 = up (a 2) (g 7) 12 := h_59
      have b_74 : g_60 1 = g 1 := hfr_63 1 (by decide)
      have b_75 : g_60 2 = g 2 := hfr_63 2 (by decide)
      have b_76 : g_60 3 = g 3 := hfr_63 3 (by decide)
      have b_77 : g_60 4 = g 4 := hfr_63 4 (by decide)
      have b_78 : g_60 9 = g 9 := hfr_63 9 (by decide)
      have b_79 : g_60 12 = g 12 := hfr_63 12 (by decide)
      have b_80 : g_60 15 = g 15 := hfr_63 15 (by decide)
      have b_81 : g_60 5 = g 5 := hfr_63 5 (by decide)
      have t_82 : a_61 3 = a 3 := (hfr_64 3 (by decide)).trans rfl
      have t_83 : a_61 4 = a 4 := (hfr_64 4 (by decide)).trans rfl
      have t_84 : a_61 5 = a 5 := (hfr_64 5 (by decide)).trans rfl
      have t_85 : a_61 6 = a 6 := (hfr_64 6 (by decide)).trans rfl
      have t_86 : a_61 7 = a 7 := (hfr_64 7 (by decide)).trans rfl
      have t_87 : a_61 8 = a 8 := (hfr_64 8 (by decide)).trans rfl
      have b_88 : 0 ≤ g_60 7 ∧ g_60 7 ≤ 1200 := hI.1 7
      refine xr_if_ne (tgt := 54) hx hb dX13_holds_49 (by decide) (by omega) (fun h_89 => ?_) (fun h_89 => ?_)
      · have t_90 : a_61 2 = up (a 2) (g 7) 12 := ((h_59).resolve_left (by omega)).trans (up_c rfl (by omega) (by omega))
        refine lv_aload_n hx hb dX13_holds_54 rfl (lv_at hl 0 rfl) ?_
        refine lv_sipush (v := iI 193) hx hb dX13_holds_55 rfl ?_
        refine jcg_v (va_runV (As := [.int (iI 193)]) (rest := []) ⟨hx, hb, hml, hown, hts⟩ (sX13_push l dC dI _ ad ca g_60 a_61 193 hI (by omega) (by omega)) (cwV 1 hts (jgoodV m_225 m_452 m_453 m_503 m_194) rfl rfl rfl (by decide +kernel) ⟨(Nat.le_of_ble_eq_true rfl), (Nat.le_of_ble_eq_true rfl)⟩) ⟨jw_blind, va_recv hK hP (ci := 13) (q0 := 0) rfl rfl, fun U hU hW => ⟨rfl, jw_of hU hW hP hK hD⟩⟩ rfl rfl hl.1 rfl (lv_room (Nat.le_of_ble_eq_true rfl)) dX13_holds_58 ⟨(Nat.le_of_ble_eq_true rfl), (Nat.le_of_ble_eq_true rfl)⟩) hD hS hA (fun u_98 H locs w_92 hP hK hD hS => ?_)
        obtain ⟨g_96, a_97⟩ := u_98
        obtain ⟨hI, hfr_99, hfr_100, h_94, h_95⟩ := w_92
        have hP : va_P (dC, dI) vwCl (mG ad ca g_96 a_97) H := hP
        have hD : va_D A (mG ad ca g_96 a_97) := hD
        have hfA : ∀ j, j ∉ ([2, 3, 4, 5, 7, 8] : List Nat) → g_96 j = g j := fun j h => (hfr_99 j (fun q => h (by first | exact q | (simp only [List.mem_cons, List.not_mem_nil, or_false] at q ⊢ <;> omega)))).trans (hfA j h)
        have b_102 : g_96 1 = g 1 := hfA 1 (by decide)
        have b_103 : g_96 9 = g 9 := hfA 9 (by decide)
        have b_104 : g_96 12 = g 12 := hfA 12 (by decide)
        have b_105 : g_96 15 = g 15 := hfA 15 (by decide)
        have b_106 := hfr_99 2 (by decide)
        have b_107 := hfr_99 3 (by decide)
        have b_108 := hfr_99 4 (by decide)
        have b_109 := hfr_99 5 (by decide)
        have b_110 := hfr_99 8 (by decide)
        have haA : ∀ j, j ∉ ([2] : List Nat) → a_97 j = a j := fun j h => (hfr_100 j (fun q => h (by first | exact q | (simp only [List.mem_cons, List.not_mem_nil, or_false] at q ⊢ <;> omega)))).trans (haA j h)
        have h_94 : g_96 7 = g_60 7 + 1 := h_94
        have h_95 : a_97 2 = up (a_61 2) (g_60 7) 193 := h_95
        have b_111 : g_96 1 = g_60 1 := hfr_99 1 (by decide)
        have b_112 : g_96 2 = g_60 2 := hfr_99 2 (by decide)
        have b_113 : g_96 3 = g_60 3 := hfr_99 3 (by decide)
        have b_114 : g_96 4 = g_60 4 := hfr_99 4 (by decide)
        have b_115 : g_96 8 = g_60 8 := hfr_99 8 (by decide)
        have b_116 : g_96 9 = g_60 9 := hfr_99 9 (by decide)
        have b_117 : g_96 12 = g_60 12 := hfr_99 12 (by decide)
        have b_118 : g_96 15 = g_60 15 := hfr_99 15 (by decide)
        have b_119 : g_96 5 = g_60 5 := hfr_99 5 (by decide)
        have t_120 : a_97 2 = up (up (a 2) (g 7) 12) ((g 7 + 1)) 193 := h_95.trans (up_c t_90 (by omega) (by omega))
        have t_121 : a_97 3 = a 3 := (hfr_100 3 (by decide)).trans t_82
        have t_122 : a_97 4 = a 4 := (hfr_100 4 (by decide)).trans t_83
        have t_123 : a_97 5 = a 5 := (hfr_100 5 (by decide)).trans t_84
        have t_124 : a_97 6 = a 6 := (hfr_100 6 (by decide)).trans t_85
        have t_125 : a_97 7 = a 7 := (hfr_100 7 (by decide)).trans t_86
        have t_126 : a_97 8 = a 8 := (hfr_100 8 (by decide)).trans t_87
        have b_127 : 0 ≤ g_96 7 ∧ g_96 7 ≤ 1200 := hI.1 7
        refine lv_aload_n hx hb dX13_holds_61 rfl (lv_at hl 0 rfl) ?_
        refine lv_bipush (v := iI 6) hx hb dX13_holds_62 rfl ?_
        refine jcg_v (va_runV (As := [.int (iI 6)]) (rest := []) ⟨hx, hb, hml, hown, hts⟩ (sX13_push l dC dI _ ad ca g_96 a_97 6 hI (by omega) (by omega)) (cwV 1 hts (jgoodV m_225 m_452 m_453 m_503 m_194) rfl rfl rfl (by decide +kernel) ⟨(Nat.le_of_ble_eq_true rfl), (Nat.le_of_ble_eq_true rfl)⟩) ⟨jw_blind, va_recv hK hP (ci := 13) (q0 := 0) rfl rfl, fun U hU hW => ⟨rfl, jw_of hU hW hP hK hD⟩⟩ rfl rfl hl.1 rfl (lv_room (Nat.le_of_ble_eq_true rfl)) dX13_holds_64 ⟨(Nat.le_of_ble_eq_true rfl), (Nat.le_of_ble_eq_true rfl)⟩) hD hS hA (fun u_135 H locs w_129 hP hK hD hS => ?_)
        obtain ⟨g_133, a_134⟩ := u_135
        obtain ⟨hI, hfr_136, hfr_137, h_131, h_132⟩ := w_129
        have hP : va_P (dC, dI) vwCl (mG ad ca g_133 a_134) H := hP
        have hD : va_D A (mG ad ca g_133 a_134) := hD
        have hfA : ∀ j, j ∉ ([2, 3, 4, 5, 7, 8] : List Nat) → g_133 j = g j := fun j h => (hfr_136 j (fun q => h (by first | exact q | (simp only [List.mem_cons, List.not_mem_nil, or_false] at q ⊢ <;> omega)))).trans (hfA j h)
        have b_139 : g_133 1 = g 1 := hfA 1 (by decide)
        have b_140 : g_133 9 = g 9 := hfA 9 (by decide)
        have b_141 : g_133 12 = g 12 := hfA 12 (by decide)
        have b_142 : g_133 15 = g 15 := hfA 15 (by decide)
        have b_143 := hfr_136 2 (by decide)
        have b_144 := hfr_136 3 (by decide)
        have b_145 := hfr_136 4 (by decide)
        have b_146 := hfr_136 5 (by decide)
        have b_147 := hfr_136 8 (by decide)
        have haA : ∀ j, j ∉ ([2] : List Nat) → a_134 j = a j := fun j h => (hfr_137 j (fun q => h (by first | exact q | (simp only [List.mem_cons, List.not_mem_nil, or_false] at q ⊢ <;> omega)))).trans (haA j h)
        have h_131 : g_133 7 = g_96 7 + 1 := h_131
        have h_132 : a_134 2 = up (a_97 2) (g_96 7) 6 := h_132
        have b_148 : g_133 1 = g_96 1 := hfr_136 1 (by decide)
        have b_149 : g_133 2 = g_96 2 := hfr_136 2 (by decide)
        have b_150 : g_133 3 = g_96 3 := hfr_136 3 (by decide)
        have b_151 : g_133 4 = g_96 4 := hfr_136 4 (by decide)
        have b_152 : g_133 8 = g_96 8 := hfr_136 8 (by decide)
        have b_153 : g_133 9 = g_96 9 := hfr_136 9 (by decide)
        have b_154 : g_133 12 = g_96 12 := hfr_136 12 (by decide)
        have b_155 : g_133 15 = g_96 15 := hfr_136 15 (by decide)
        have b_156 : g_133 5 = g_96 5 := hfr_136 5 (by decide)
        have t_157 : a_134 2 = up (up (up (a 2) (g 7) 12) ((g 7 + 1)) 193) (((g 7 + 1) + 1)) 6 := h_132.trans (up_c t_120 (by omega) (by omega))
        have t_158 : a_134 3 = a 3 := (hfr_137 3 (by decide)).trans t_121
        have t_159 : a_134 4 = a 4 := (hfr_137 4 (by decide)).trans t_122
        have t_160 : a_134 5 = a 5 := (hfr_137 5 (by decide)).trans t_123
        have t_161 : a_134 6 = a 6 := (hfr_137 6 (by decide)).trans t_124
        have t_162 : a_134 7 = a 7 := (hfr_137 7 (by decide)).trans t_125
        have t_163 : a_134 8 = a 8 := (hfr_137 8 (by decide)).trans t_126
        have b_164 : 0 ≤ g_133 7 ∧ g_133 7 ≤ 1200 := hI.1 7
        refine lv_aload_n hx hb dX13_holds_67 rfl (lv_at hl 0 rfl) ?_
        refine jcg_i (va_runV (As := []) (rest := []) ⟨hx, hb, hml, hown, hts⟩ (sX13_takes l dC dI _ ad ca sK sV g_133 a_134 tT tN  hI (by omega) (txR_t (hfA 1 (by decide)) (haA 1 (by decide)) hrTx)) (cwV 0 hts (jgoodV m_228 m_480 m_481 m_503 m_208) rfl rfl rfl (by decide +kernel) ⟨(Nat.le_of_ble_eq_true rfl), (Nat.le_of_ble_eq_true rfl)⟩) ⟨mP_blind, va_recv hK hP (ci := 13) (q0 := 0) rfl rfl, fun U hU hW => ⟨rfl, mP_of hU hW hP hK hD hXs hS (fun _ h => h) hA⟩⟩ rfl rfl hl.1 rfl (lv_room (Nat.le_of_ble_eq_true rfl)) dX13_holds_68 ⟨(Nat.le_of_ble_eq_true rfl), (Nat.le_of_ble_eq_true rfl)⟩) hD hS hA (fun r_165 u_178 H locs w_166 hP hK hD hS => ?_)
        obtain ⟨g_176, a_177⟩ := u_178
        obtain ⟨z_167, rfl, hI, hfr_179, hfr_180, h_168, h_169, h_170, h_171, h_172, h_173, h_174, h_175⟩ := w_166
        have hP : va_P (dC, dI) vwCl (mG ad ca g_176 a_177) H := hP
        have hD : va_D A (mG ad ca g_176 a_177) := hD
        have hfA : ∀ j, j ∉ ([2, 3, 4, 5, 7, 8] : List Nat) → g_176 j = g j := fun j h => (hfr_179 j (fun q => h (by first | exact q | (simp only [List.mem_cons, List.not_mem_nil, or_false] at q ⊢ <;> omega)))).trans (hfA j h)
        have b_182 : g_176 1 = g 1 := hfA 1 (by decide)
        have b_183 : g_176 9 = g 9 := hfA 9 (by decide)
        have b_184 : g_176 12 = g 12 := hfA 12 (by decide)
        have b_185 : g_176 15 = g 15 := hfA 15 (by decide)
        have b_186 := hfr_179 7 (by decide)
        have b_187 := hfr_179 8 (by decide)
        have haA : ∀ j, j ∉ ([2] : List Nat) → a_177 j = a j := fun j h => (hfr_180 j (fun q => h (by first | exact q | (simp only [List.mem_cons, List.not_mem_nil, or_false] at q ⊢ <;> omega)))).trans (haA j h)
        have h_170 : g_133 2 ≤ g_176 2 := h_170
        have h_171 : g_176 2 ≤ g_133 1 := h_171
        have h_172 : g_176 3 = 0 ∨ g_133 2 + 1 ≤ g_176 2 := h_172
        have h_173 : g_176 4 ≤ g_176 2 := h_173
        have h_174 : g_176 4 = scn (bB tT) tN (g_133 2) := h_174
        have h_175 : tkR tT tN g_176 a_177 := h_175
        have b_188 : g_176 1 = g_133 1 := hfr_179 1 (by decide)
        have b_189 : g_176 7 = g_133 7 := hfr_179 7 (by decide)
        have b_190 : g_176 8 = g_133 8 := hfr_179 8 (by decide)
        have b_191 : g_176 9 = g_133 9 := hfr_179 9 (by decide)
        have b_192 : g_176 12 = g_133 12 := hfr_179 12 (by decide)
        have b_193 : g_176 15 = g_133 15 := hfr_179 15 (by decide)
        have t_194 : a_177 2 = up (up (up (a 2) (g 7) 12) ((g 7 + 1)) 193) (((g 7 + 1) + 1)) 6 := (hfr_180 2 (by decide)).trans t_157
        have t_195 : a_177 3 = a 3 := (hfr_180 3 (by decide)).trans t_158
        have t_196 : a_177 4 = a 4 := (hfr_180 4 (by decide)).trans t_159
        have t_197 : a_177 5 = a 5 := (hfr_180 5 (by decide)).trans t_160
        have t_198 : a_177 6 = a 6 := (hfr_180 6 (by decide)).trans t_161
        have t_199 : a_177 7 = a 7 := (hfr_180 7 (by decide)).trans t_162
        have t_200 : a_177 8 = a 8 := (hfr_180 8 (by decide)).trans t_163
        have b_201 : 0 ≤ g_176 1 ∧ g_176 1 ≤ 600 := hI.1 1
        have b_202 : 0 ≤ g_176 2 ∧ g_176 2 ≤ 600 := hI.1 2
        have e9 : g_176 4 = scn (bB tT) tN (g 2) := by rw [show g 2 = g_133 2 by omega]; exact h_174
        rw [← hQ]
        exact W.zret (v := iI z_167) (ty := .boolean) hx hb hr (nb_bool (by omega) (by omega)) (fun t ht hW => ⟨⟨iI z_167, (g_176, a_177), rfl, ⟨z_167, rfl, hI, hfA, haA, by omega, by show z_167 = 0 ∨ (rPn g_176 a_177 (g_176 7) ∧ mz g_176 a_177 (g_176 7) < mz g a (g 7 + 1)); first | exact Or.inl rfl | exact Or.inr (st_10n hrP1 (by omega) k1 ⟨by omega, by omega, by omega, by omega, t_195, t_196, t_197, t_198, t_199, t_200⟩ (by omega) (by omega) (by omega) (by omega) ⟨by omega, by omega, by omega⟩ ((t_194).trans (up_c rfl (by omega) rfl))) | exact Or.inr (st_10b hrP1 (by omega) k1 ⟨by omega, by omega, by omega, by omega, t_195, t_196, t_197, t_198, t_199, t_200⟩ (by omega) (by omega) (by omega) (by omega) ⟨by omega, by omega, by omega⟩ ((t_194).trans (up_c rfl (by omega) rfl))) | exact Or.inr (st_10 hrP1 (by omega) k1 ⟨by omega, by omega, by omega, by omega, t_195, t_196, t_197, t_198, t_199, t_200⟩ (by omega) (by omega) (by omega) (by omega) (by omega) t_194), by show tkR tT tN g_176 a_177; first | assumption | exact tkR_t (by omega) (by omega) (by omega) (by omega) h_175 | exact tkR_t (by omega) (by omega) (by omega) (by omega) hrTk, by show nst tT tN g a g_176 a_177 z_167; first | exact nst_n (by omega) (by omega) (nf_10 hrTk k1 (by omega) (by omega) (by omega)) | exact nst_y (by omega) (by omega) (nt_10n hrTk (by omega) (by omega) (by omega) k1 (by omega) (by omega) (by omega) t_197 (by omega) ((t_194).trans (up_c rfl (by omega) rfl))) | exact nst_y (by omega) (by omega) (nt_10b hrTk (by omega) (by omega) (by omega) k1 (by omega) (by omega) (by omega) t_197 (by omega) ((t_194).trans (up_c rfl (by omega) rfl))) | exact nst_y (by omega) (by omega) (nt_10 hrTk (by omega) (by omega) k1 (by omega) (by omega) (by omega) t_197 (by omega) t_194)⟩, by rw [ht]; exact hP, va_K.moved hW.alike hK, hD⟩, hS.F ht⟩) hS.2.2 dX13_holds_71
      · refine lv_iconst (v := iI 0) hx hb dX13_holds_52 rfl ?_
        rw [← hQ]
        exact W.zret (v := iI 0) (ty := .boolean) hx hb hr (nb_bool (by omega) (by omega)) (fun t ht hW => ⟨⟨iI 0, (g_60, a_61), rfl, ⟨0, rfl, hI, hfA, haA, by omega, by show 0 = 0 ∨ (rPn g_60 a_61 (g_60 7) ∧ mz g_60 a_61 (g_60 7) < mz g a (g 7 + 1)); first | exact Or.inl rfl | exact Or.inr (st_10n hrP1 (by omega) k1 ⟨by omega, by omega, by omega, by omega, t_82, t_83, t_84, t_85, t_86, t_87⟩ (by omega) (by omega) (by omega) (by omega) ⟨by omega, by omega, by omega⟩ ((rfl).trans (up_c rfl (by omega) rfl))) | exact Or.inr (st_10b hrP1 (by omega) k1 ⟨by omega, by omega, by omega, by omega, t_82, t_83, t_84, t_85, t_86, t_87⟩ (by omega) (by omega) (by omega) (by omega) ⟨by omega, by omega, by omega⟩ ((rfl).trans (up_c rfl (by omega) rfl))) | exact Or.inr (st_10 hrP1 (by omega) k1 ⟨by omega, by omega, by omega, by omega, t_82, t_83, t_84, t_85, t_86, t_87⟩ (by omega) (by omega) (by omega) (by omega) (by omega) rfl), by show tkR tT tN g_60 a_61; first | assumption | exact tkR_t (by omega) (by omega) (by omega) (by omega) _ | exact tkR_t (by omega) (by omega) (by omega) (by omega) hrTk, by show nst tT tN g a g_60 a_61 0; first | exact nst_n (by omega) (by omega) (nf_10 hrTk k1 (by omega) (by omega) (by omega)) | exact nst_y (by omega) (by omega) (nt_10n hrTk (by omega) (by omega) (by omega) k1 (by omega) (by omega) (by omega) t_84 (by omega) ((rfl).trans (up_c rfl (by omega) rfl))) | exact nst_y (by omega) (by omega) (nt_10b hrTk (by omega) (by omega) (by omega) k1 (by omega) (by omega) (by omega) t_84 (by omega) ((rfl).trans (up_c rfl (by omega) rfl))) | exact nst_y (by omega) (by omega) (nt_10 hrTk (by omega) (by omega) k1 (by omega) (by omega) (by omega) t_84 (by omega) rfl)⟩, by rw [ht]; exact hP, va_K.moved hW.alike hK, hD⟩, hS.F ht⟩) hS.2.2 dX13_holds_53
  · refine lv_aload_n hx hb dX13_holds_9 rfl (lv_at hl 0 rfl) ?_
    refine jcg_i (va_runV (As := []) (rest := []) ⟨hx, hb, hml, hown, hts⟩ (sX13_deeper l dC dI _ ad ca g a  hI (by omega) (by omega) (by omega)) (cwV 0 hts (jgoodV m_240 m_318 m_319 m_503 m_124) rfl rfl rfl (by decide +kernel) ⟨(Nat.le_of_ble_eq_true rfl), (Nat.le_of_ble_eq_true rfl)⟩) ⟨jw_blind, va_recv hK hP (ci := 13) (q0 := 0) rfl rfl, fun U hU hW => ⟨rfl, jw_of hU hW hP hK hD⟩⟩ rfl rfl hl.1 rfl (lv_room (Nat.le_of_ble_eq_true rfl)) dX13_holds_10 ⟨(Nat.le_of_ble_eq_true rfl), (Nat.le_of_ble_eq_true rfl)⟩) hD hS hA (fun r_203 u_211 H locs w_204 hP hK hD hS => ?_)
    obtain ⟨g_209, a_210⟩ := u_211
    obtain ⟨z_205, rfl, hI, hfr_212, hfr_213, h_206, h_207, h_208⟩ := w_204
    have hP : va_P (dC, dI) vwCl (mG ad ca g_209 a_210) H := hP
    have hD : va_D A (mG ad ca g_209 a_210) := hD
    have hfA : ∀ j, j ∉ ([2, 3, 4, 5, 7, 8] : List Nat) → g_209 j = g j := fun j h => (hfr_212 j (fun q => h (by first | exact q | (simp only [List.mem_cons, List.not_mem_nil, or_false] at q ⊢ <;> omega)))).trans (hfA j h)
    have b_215 : g_209 1 = g 1 := hfA 1 (by decide)
    have b_216 : g_209 9 = g 9 := hfA 9 (by decide)
    have b_217 : g_209 12 = g 12 := hfA 12 (by decide)
    have b_218 : g_209 15 = g 15 := hfA 15 (by decide)
    have b_219 := hfr_212 2 (by decide)
    have b_220 := hfr_212 3 (by decide)
    have b_221 := hfr_212 4 (by decide)
    have b_222 := hfr_212 5 (by decide)
    have haA : ∀ j, j ∉ ([2] : List Nat) → a_210 j = a j := fun j h => (hfr_213 j (fun q => h (by first | exact q | (simp only [List.mem_cons, List.not_mem_nil, or_false] at q ⊢ <;> omega)))).trans (haA j h)
    have h_207 : (z_205 = 0 ∧ g 8 = 8 ∧ g_209 7 = g 7 ∧ g_209 8 = g 8) ∨ (z_205 = 1 ∧ g 8 ≠ 8 ∧ g_209 7 = g 7 + 1 ∧ g_209 8 = g 8 + 1) := h_207
    have h_208 : z_205 = 0 ∨ a_210 2 = up (a 2) (g 7) 12 := h_208
    have b_223 : g_209 1 = g 1 := hfr_212 1 (by decide)
    have b_224 : g_209 2 = g 2 := hfr_212 2 (by decide)
    have b_225 : g_209 3 = g 3 := hfr_212 3 (by decide)
    have b_226 : g_209 4 = g 4 := hfr_212 4 (by decide)
    have b_227 : g_209 9 = g 9 := hfr_212 9 (by decide)
    have b_228 : g_209 12 = g 12 := hfr_212 12 (by decide)
    have b_229 : g_209 15 = g 15 := hfr_212 15 (by decide)
    have b_230 : g_209 5 = g 5 := hfr_212 5 (by decide)
    have t_231 : a_210 3 = a 3 := (hfr_213 3 (by decide)).trans rfl
    have t_232 : a_210 4 = a 4 := (hfr_213 4 (by decide)).trans rfl
    have t_233 : a_210 5 = a 5 := (hfr_213 5 (by decide)).trans rfl
    have t_234 : a_210 6 = a 6 := (hfr_213 6 (by decide)).trans rfl
    have t_235 : a_210 7 = a 7 := (hfr_213 7 (by decide)).trans rfl
    have t_236 : a_210 8 = a 8 := (hfr_213 8 (by decide)).trans rfl
    have b_237 : 0 ≤ g_209 7 ∧ g_209 7 ≤ 1200 := hI.1 7
    refine xr_if_ne (tgt := 18) hx hb dX13_holds_13 (by decide) (by omega) (fun h_238 => ?_) (fun h_238 => ?_)
    · have t_239 : a_210 2 = up (a 2) (g 7) 12 := ((h_208).resolve_left (by omega)).trans (up_c rfl (by omega) (by omega))
      refine lv_aload_n hx hb dX13_holds_18 rfl (lv_at hl 0 rfl) ?_
      refine lv_sipush (v := iI 1011) hx hb dX13_holds_19 rfl ?_
      refine jcg_v (va_runV (As := [.int (iI 1011)]) (rest := []) ⟨hx, hb, hml, hown, hts⟩ (sX13_push l dC dI _ ad ca g_209 a_210 1011 hI (by omega) (by omega)) (cwV 1 hts (jgoodV m_225 m_452 m_453 m_503 m_194) rfl rfl rfl (by decide +kernel) ⟨(Nat.le_of_ble_eq_true rfl), (Nat.le_of_ble_eq_true rfl)⟩) ⟨jw_blind, va_recv hK hP (ci := 13) (q0 := 0) rfl rfl, fun U hU hW => ⟨rfl, jw_of hU hW hP hK hD⟩⟩ rfl rfl hl.1 rfl (lv_room (Nat.le_of_ble_eq_true rfl)) dX13_holds_22 ⟨(Nat.le_of_ble_eq_true rfl), (Nat.le_of_ble_eq_true rfl)⟩) hD hS hA (fun u_247 H locs w_241 hP hK hD hS => ?_)
      obtain ⟨g_245, a_246⟩ := u_247
      obtain ⟨hI, hfr_248, hfr_249, h_243, h_244⟩ := w_241
      have hP : va_P (dC, dI) vwCl (mG ad ca g_245 a_246) H := hP
      have hD : va_D A (mG ad ca g_245 a_246) := hD
      have hfA : ∀ j, j ∉ ([2, 3, 4, 5, 7, 8] : List Nat) → g_245 j = g j := fun j h => (hfr_248 j (fun q => h (by first | exact q | (simp only [List.mem_cons, List.not_mem_nil, or_false] at q ⊢ <;> omega)))).trans (hfA j h)
      have b_251 : g_245 1 = g 1 := hfA 1 (by decide)
      have b_252 : g_245 9 = g 9 := hfA 9 (by decide)
      have b_253 : g_245 12 = g 12 := hfA 12 (by decide)
      have b_254 : g_245 15 = g 15 := hfA 15 (by decide)
      have b_255 := hfr_248 2 (by decide)
      have b_256 := hfr_248 3 (by decide)
      have b_257 := hfr_248 4 (by decide)
      have b_258 := hfr_248 5 (by decide)
      have b_259 := hfr_248 8 (by decide)
      have haA : ∀ j, j ∉ ([2] : List Nat) → a_246 j = a j := fun j h => (hfr_249 j (fun q => h (by first | exact q | (simp only [List.mem_cons, List.not_mem_nil, or_false] at q ⊢ <;> omega)))).trans (haA j h)
      have h_243 : g_245 7 = g_209 7 + 1 := h_243
      have h_244 : a_246 2 = up (a_210 2) (g_209 7) 1011 := h_244
      have b_260 : g_245 1 = g_209 1 := hfr_248 1 (by decide)
      have b_261 : g_245 2 = g_209 2 := hfr_248 2 (by decide)
      have b_262 : g_245 3 = g_209 3 := hfr_248 3 (by decide)
      have b_263 : g_245 4 = g_209 4 := hfr_248 4 (by decide)
      have b_264 : g_245 8 = g_209 8 := hfr_248 8 (by decide)
      have b_265 : g_245 9 = g_209 9 := hfr_248 9 (by decide)
      have b_266 : g_245 12 = g_209 12 := hfr_248 12 (by decide)
      have b_267 : g_245 15 = g_209 15 := hfr_248 15 (by decide)
      have b_268 : g_245 5 = g_209 5 := hfr_248 5 (by decide)
      have t_269 : a_246 2 = up (up (a 2) (g 7) 12) ((g 7 + 1)) 1011 := h_244.trans (up_c t_239 (by omega) (by omega))
      have t_270 : a_246 3 = a 3 := (hfr_249 3 (by decide)).trans t_231
      have t_271 : a_246 4 = a 4 := (hfr_249 4 (by decide)).trans t_232
      have t_272 : a_246 5 = a 5 := (hfr_249 5 (by decide)).trans t_233
      have t_273 : a_246 6 = a 6 := (hfr_249 6 (by decide)).trans t_234
      have t_274 : a_246 7 = a 7 := (hfr_249 7 (by decide)).trans t_235
      have t_275 : a_246 8 = a 8 := (hfr_249 8 (by decide)).trans t_236
      have b_276 : 0 ≤ g_245 7 ∧ g_245 7 ≤ 1200 := hI.1 7
      refine lv_aload_n hx hb dX13_holds_25 rfl (lv_at hl 0 rfl) ?_
      refine lv_bipush (v := iI 10) hx hb dX13_holds_26 rfl ?_
      refine jcg_v (va_runV (As := [.int (iI 10)]) (rest := []) ⟨hx, hb, hml, hown, hts⟩ (sX13_push l dC dI _ ad ca g_245 a_246 10 hI (by omega) (by omega)) (cwV 1 hts (jgoodV m_225 m_452 m_453 m_503 m_194) rfl rfl rfl (by decide +kernel) ⟨(Nat.le_of_ble_eq_true rfl), (Nat.le_of_ble_eq_true rfl)⟩) ⟨jw_blind, va_recv hK hP (ci := 13) (q0 := 0) rfl rfl, fun U hU hW => ⟨rfl, jw_of hU hW hP hK hD⟩⟩ rfl rfl hl.1 rfl (lv_room (Nat.le_of_ble_eq_true rfl)) dX13_holds_28 ⟨(Nat.le_of_ble_eq_true rfl), (Nat.le_of_ble_eq_true rfl)⟩) hD hS hA (fun u_284 H locs w_278 hP hK hD hS => ?_)
      obtain ⟨g_282, a_283⟩ := u_284
      obtain ⟨hI, hfr_285, hfr_286, h_280, h_281⟩ := w_278
      have hP : va_P (dC, dI) vwCl (mG ad ca g_282 a_283) H := hP
      have hD : va_D A (mG ad ca g_282 a_283) := hD
      have hfA : ∀ j, j ∉ ([2, 3, 4, 5, 7, 8] : List Nat) → g_282 j = g j := fun j h => (hfr_285 j (fun q => h (by first | exact q | (simp only [List.mem_cons, List.not_mem_nil, or_false] at q ⊢ <;> omega)))).trans (hfA j h)
      have b_288 : g_282 1 = g 1 := hfA 1 (by decide)
      have b_289 : g_282 9 = g 9 := hfA 9 (by decide)
      have b_290 : g_282 12 = g 12 := hfA 12 (by decide)
      have b_291 : g_282 15 = g 15 := hfA 15 (by decide)
      have b_292 := hfr_285 2 (by decide)
      have b_293 := hfr_285 3 (by decide)
      have b_294 := hfr_285 4 (by decide)
      have b_295 := hfr_285 5 (by decide)
      have b_296 := hfr_285 8 (by decide)
      have haA : ∀ j, j ∉ ([2] : List Nat) → a_283 j = a j := fun j h => (hfr_286 j (fun q => h (by first | exact q | (simp only [List.mem_cons, List.not_mem_nil, or_false] at q ⊢ <;> omega)))).trans (haA j h)
      have h_280 : g_282 7 = g_245 7 + 1 := h_280
      have h_281 : a_283 2 = up (a_246 2) (g_245 7) 10 := h_281
      have b_297 : g_282 1 = g_245 1 := hfr_285 1 (by decide)
      have b_298 : g_282 2 = g_245 2 := hfr_285 2 (by decide)
      have b_299 : g_282 3 = g_245 3 := hfr_285 3 (by decide)
      have b_300 : g_282 4 = g_245 4 := hfr_285 4 (by decide)
      have b_301 : g_282 8 = g_245 8 := hfr_285 8 (by decide)
      have b_302 : g_282 9 = g_245 9 := hfr_285 9 (by decide)
      have b_303 : g_282 12 = g_245 12 := hfr_285 12 (by decide)
      have b_304 : g_282 15 = g_245 15 := hfr_285 15 (by decide)
      have b_305 : g_282 5 = g_245 5 := hfr_285 5 (by decide)
      have t_306 : a_283 2 = up (up (up (a 2) (g 7) 12) ((g 7 + 1)) 1011) (((g 7 + 1) + 1)) 10 := h_281.trans (up_c t_269 (by omega) (by omega))
      have t_307 : a_283 3 = a 3 := (hfr_286 3 (by decide)).trans t_270
      have t_308 : a_283 4 = a 4 := (hfr_286 4 (by decide)).trans t_271
      have t_309 : a_283 5 = a 5 := (hfr_286 5 (by decide)).trans t_272
      have t_310 : a_283 6 = a 6 := (hfr_286 6 (by decide)).trans t_273
      have t_311 : a_283 7 = a 7 := (hfr_286 7 (by decide)).trans t_274
      have t_312 : a_283 8 = a 8 := (hfr_286 8 (by decide)).trans t_275
      have b_313 : 0 ≤ g_282 7 ∧ g_282 7 ≤ 1200 := hI.1 7
      refine lv_aload_n hx hb dX13_holds_31 rfl (lv_at hl 0 rfl) ?_
      refine jcg_i (va_runV (As := []) (rest := []) ⟨hx, hb, hml, hown, hts⟩ (sX13_takes l dC dI _ ad ca sK sV g_282 a_283 tT tN  hI (by omega) (txR_t (hfA 1 (by decide)) (haA 1 (by decide)) hrTx)) (cwV 0 hts (jgoodV m_228 m_480 m_481 m_503 m_208) rfl rfl rfl (by decide +kernel) ⟨(Nat.le_of_ble_eq_true rfl), (Nat.le_of_ble_eq_true rfl)⟩) ⟨mP_blind, va_recv hK hP (ci := 13) (q0 := 0) rfl rfl, fun U hU hW => ⟨rfl, mP_of hU hW hP hK hD hXs hS (fun _ h => h) hA⟩⟩ rfl rfl hl.1 rfl (lv_room (Nat.le_of_ble_eq_true rfl)) dX13_holds_32 ⟨(Nat.le_of_ble_eq_true rfl), (Nat.le_of_ble_eq_true rfl)⟩) hD hS hA (fun r_314 u_327 H locs w_315 hP hK hD hS => ?_)
      obtain ⟨g_325, a_326⟩ := u_327
      obtain ⟨z_316, rfl, hI, hfr_328, hfr_329, h_317, h_318, h_319, h_320, h_321, h_322, h_323, h_324⟩ := w_315
      have hP : va_P (dC, dI) vwCl (mG ad ca g_325 a_326) H := hP
      have hD : va_D A (mG ad ca g_325 a_326) := hD
      have hfA : ∀ j, j ∉ ([2, 3, 4, 5, 7, 8] : List Nat) → g_325 j = g j := fun j h => (hfr_328 j (fun q => h (by first | exact q | (simp only [List.mem_cons, List.not_mem_nil, or_false] at q ⊢ <;> omega)))).trans (hfA j h)
      have b_331 : g_325 1 = g 1 := hfA 1 (by decide)
      have b_332 : g_325 9 = g 9 := hfA 9 (by decide)
      have b_333 : g_325 12 = g 12 := hfA 12 (by decide)
      have b_334 : g_325 15 = g 15 := hfA 15 (by decide)
      have b_335 := hfr_328 7 (by decide)
      have b_336 := hfr_328 8 (by decide)
      have haA : ∀ j, j ∉ ([2] : List Nat) → a_326 j = a j := fun j h => (hfr_329 j (fun q => h (by first | exact q | (simp only [List.mem_cons, List.not_mem_nil, or_false] at q ⊢ <;> omega)))).trans (haA j h)
      have h_319 : g_282 2 ≤ g_325 2 := h_319
      have h_320 : g_325 2 ≤ g_282 1 := h_320
      have h_321 : g_325 3 = 0 ∨ g_282 2 + 1 ≤ g_325 2 := h_321
      have h_322 : g_325 4 ≤ g_325 2 := h_322
      have h_323 : g_325 4 = scn (bB tT) tN (g_282 2) := h_323
      have h_324 : tkR tT tN g_325 a_326 := h_324
      have b_337 : g_325 1 = g_282 1 := hfr_328 1 (by decide)
      have b_338 : g_325 7 = g_282 7 := hfr_328 7 (by decide)
      have b_339 : g_325 8 = g_282 8 := hfr_328 8 (by decide)
      have b_340 : g_325 9 = g_282 9 := hfr_328 9 (by decide)
      have b_341 : g_325 12 = g_282 12 := hfr_328 12 (by decide)
      have b_342 : g_325 15 = g_282 15 := hfr_328 15 (by decide)
      have t_343 : a_326 2 = up (up (up (a 2) (g 7) 12) ((g 7 + 1)) 1011) (((g 7 + 1) + 1)) 10 := (hfr_329 2 (by decide)).trans t_306
      have t_344 : a_326 3 = a 3 := (hfr_329 3 (by decide)).trans t_307
      have t_345 : a_326 4 = a 4 := (hfr_329 4 (by decide)).trans t_308
      have t_346 : a_326 5 = a 5 := (hfr_329 5 (by decide)).trans t_309
      have t_347 : a_326 6 = a 6 := (hfr_329 6 (by decide)).trans t_310
      have t_348 : a_326 7 = a 7 := (hfr_329 7 (by decide)).trans t_311
      have t_349 : a_326 8 = a 8 := (hfr_329 8 (by decide)).trans t_312
      have b_350 : 0 ≤ g_325 1 ∧ g_325 1 ≤ 600 := hI.1 1
      have b_351 : 0 ≤ g_325 2 ∧ g_325 2 ≤ 600 := hI.1 2
      have e9 : g_325 4 = scn (bB tT) tN (g 2) := by rw [show g 2 = g_282 2 by omega]; exact h_323
      rw [← hQ]
      exact W.zret (v := iI z_316) (ty := .boolean) hx hb hr (nb_bool (by omega) (by omega)) (fun t ht hW => ⟨⟨iI z_316, (g_325, a_326), rfl, ⟨z_316, rfl, hI, hfA, haA, by omega, by show z_316 = 0 ∨ (rPn g_325 a_326 (g_325 7) ∧ mz g_325 a_326 (g_325 7) < mz g a (g 7 + 1)); first | exact Or.inl rfl | exact Or.inr (st_10n hrP1 (by omega) k1 ⟨by omega, by omega, by omega, by omega, t_344, t_345, t_346, t_347, t_348, t_349⟩ (by omega) (by omega) (by omega) (by omega) ⟨by omega, by omega, by omega⟩ ((t_343).trans (up_c rfl (by omega) rfl))) | exact Or.inr (st_10b hrP1 (by omega) k1 ⟨by omega, by omega, by omega, by omega, t_344, t_345, t_346, t_347, t_348, t_349⟩ (by omega) (by omega) (by omega) (by omega) ⟨by omega, by omega, by omega⟩ ((t_343).trans (up_c rfl (by omega) rfl))) | exact Or.inr (st_10 hrP1 (by omega) k1 ⟨by omega, by omega, by omega, by omega, t_344, t_345, t_346, t_347, t_348, t_349⟩ (by omega) (by omega) (by omega) (by omega) (by omega) t_343), by show tkR tT tN g_325 a_326; first | assumption | exact tkR_t (by omega) (by omega) (by omega) (by omega) h_324 | exact tkR_t (by omega) (by omega) (by omega) (by omega) hrTk, by show nst tT tN g a g_325 a_326 z_316; first | exact nst_n (by omega) (by omega) (nf_10 hrTk k1 (by omega) (by omega) (by omega)) | exact nst_y (by omega) (by omega) (nt_10n hrTk (by omega) (by omega) (by omega) k1 (by omega) (by omega) (by omega) t_346 (by omega) ((t_343).trans (up_c rfl (by omega) rfl))) | exact nst_y (by omega) (by omega) (nt_10b hrTk (by omega) (by omega) (by omega) k1 (by omega) (by omega) (by omega) t_346 (by omega) ((t_343).trans (up_c rfl (by omega) rfl))) | exact nst_y (by omega) (by omega) (nt_10 hrTk (by omega) (by omega) k1 (by omega) (by omega) (by omega) t_346 (by omega) t_343)⟩, by rw [ht]; exact hP, va_K.moved hW.alike hK, hD⟩, hS.F ht⟩) hS.2.2 dX13_holds_35
    · refine lv_iconst (v := iI 0) hx hb dX13_holds_16 rfl ?_
      rw [← hQ]
      exact W.zret (v := iI 0) (ty := .boolean) hx hb hr (nb_bool (by omega) (by omega)) (fun t ht hW => ⟨⟨iI 0, (g_209, a_210), rfl, ⟨0, rfl, hI, hfA, haA, by omega, by show 0 = 0 ∨ (rPn g_209 a_210 (g_209 7) ∧ mz g_209 a_210 (g_209 7) < mz g a (g 7 + 1)); first | exact Or.inl rfl | exact Or.inr (st_10n hrP1 (by omega) k1 ⟨by omega, by omega, by omega, by omega, t_231, t_232, t_233, t_234, t_235, t_236⟩ (by omega) (by omega) (by omega) (by omega) ⟨by omega, by omega, by omega⟩ ((rfl).trans (up_c rfl (by omega) rfl))) | exact Or.inr (st_10b hrP1 (by omega) k1 ⟨by omega, by omega, by omega, by omega, t_231, t_232, t_233, t_234, t_235, t_236⟩ (by omega) (by omega) (by omega) (by omega) ⟨by omega, by omega, by omega⟩ ((rfl).trans (up_c rfl (by omega) rfl))) | exact Or.inr (st_10 hrP1 (by omega) k1 ⟨by omega, by omega, by omega, by omega, t_231, t_232, t_233, t_234, t_235, t_236⟩ (by omega) (by omega) (by omega) (by omega) (by omega) rfl), by show tkR tT tN g_209 a_210; first | assumption | exact tkR_t (by omega) (by omega) (by omega) (by omega) _ | exact tkR_t (by omega) (by omega) (by omega) (by omega) hrTk, by show nst tT tN g a g_209 a_210 0; first | exact nst_n (by omega) (by omega) (nf_10 hrTk k1 (by omega) (by omega) (by omega)) | exact nst_y (by omega) (by omega) (nt_10n hrTk (by omega) (by omega) (by omega) k1 (by omega) (by omega) (by omega) t_233 (by omega) ((rfl).trans (up_c rfl (by omega) rfl))) | exact nst_y (by omega) (by omega) (nt_10b hrTk (by omega) (by omega) (by omega) k1 (by omega) (by omega) (by omega) t_233 (by omega) ((rfl).trans (up_c rfl (by omega) rfl))) | exact nst_y (by omega) (by omega) (nt_10 hrTk (by omega) (by omega) k1 (by omega) (by omega) (by omega) t_233 (by omega) rfl)⟩, by rw [ht]; exact hP, va_K.moved hW.alike hK, hD⟩, hS.F ht⟩) hS.2.2 dX13_holds_17
