set_option maxHeartbeats 2000000 in
set_option maxRecDepth 100000 in
theorem sX13_compares (l : Launch) (dC : Nat → ClassId) (dI : Nat → Nat → Nat) (sz : Nat) (ad : Nat → Nat) (ca : Nat → ClassId) (sK sV : Nat → Nat) (g : Nat → Int) (a : Nat → Int → Int) (tT : Int → Int) (tN : Int) (hI : mI g a) (k1 : a 2 (g 7) = 11) (hrP1 : rP1 g a) (hrTx : txR tT tN g a) (hrTk : tkR tT tN g a) : Met l yX13_compares (jk yX13_compares cX13_compares 1 (some .boolean)) ({ frames := 7, cells := 0, slots := 0, locals := 153 }) (va_Pc [.ref (ad 0)] (mP (dC, dI) (mG ad ca g a) (mT ca) sK sV sz)) (va_Qi (fun (r : Int32) (u : (Nat → Int) × (Nat → Int → Int)) => ∃ z : Int, r = iI z ∧ (mI u.1 u.2) ∧ (∀ j, j ∉ ([2, 3, 4, 5, 7] : List Nat) → u.1 j = g j) ∧ (∀ j, j ∉ ([2] : List Nat) → u.2 j = a j) ∧ (0 ≤ z ∧ z ≤ 1) ∧ (z = 0 ∨ (rPn u.1 u.2 (u.1 7) ∧ mz u.1 u.2 (u.1 7) < mz g a (g 7 + 1))) ∧ (tkR tT tN u.1 u.2) ∧ (nst tT tN g a u.1 u.2 z)) (fun u t => va_P (dC, dI) vwCl (mG ad ca u.1 u.2) t.heap ∧ va_K (dC, dI) vwCl (mT ca) t ∧ va_D (va_A (mG ad ca g a) sz) (mG ad ca u.1 u.2)) (va_A (mG ad ca g a) sz)) 0 0 (va_A (mG ad ca g a) sz) := by
  refine Met.ofW (cc := cX13_compares) (maxL := 1) (ret := (some .boolean)) (by decide) rfl ?_
  intro p e s m args below meth c s₁ B hml hv
  obtain ⟨rfl, ⟨hsz, hP, hK, hD0⟩, hX0⟩ := hv
  have hx := B.exec
  have hb := B.bytes
  have hr := B.returns
  have hts := atoms_spec (ws := (jk yX13_compares cX13_compares 1 (some .boolean))) B.pre
  have hj : ∀ w ∈ jw, w.before ([.ref (ad 0)] : List Value).toArray s = true := fun w h => hts w (jm h)
  have hown : s.vm.findClass RX13 = some m.cls := findClass_of_methodNamed B.named
  subst hsz
  have hD := hD0.self (sz := s.heap.size)
  have hXs := hX0
  generalize hAe : (va_A (mG ad ca g a) s.heap.size) = A at hD hXs ⊢
  have hA : ∀ q : Nat, s.heap.size ≤ q → A q := fun q h => by rw [← hAe]; exact Or.inr h
  have hS : va_S A s.heap s.heap [] := va_S.rf
  have hP : va_P (dC, dI) vwCl (mG ad ca g a) s.heap := hP
  have hfA : ∀ j, j ∉ ([2, 3, 4, 5, 7] : List Nat) → g j = g j := fun _ _ => rfl
  have haA : ∀ j, j ∉ ([2] : List Nat) → a j = a j := fun _ _ => rfl
  have hl := lv_entry ([.ref (ad 0)]) (n := 1) (Nat.le_of_ble_eq_true rfl)
  rw [lg_entry_eq]
  generalize (lg_sl ([.ref (ad 0)]) ++ List.replicate (1 - (lg_sl ([.ref (ad 0)])).length) Slot.unset).toArray = ls at hl ⊢
  have hl : lv_has ls 1 [(0, .ref (ad 0))] := hl
  generalize hQ : MQ below (va_Qi (fun (r : Int32) (u : (Nat → Int) × (Nat → Int → Int)) => ∃ z : Int, r = iI z ∧ (mI u.1 u.2) ∧ (∀ j, j ∉ ([2, 3, 4, 5, 7] : List Nat) → u.1 j = g j) ∧ (∀ j, j ∉ ([2] : List Nat) → u.2 j = a j) ∧ (0 ≤ z ∧ z ≤ 1) ∧ (z = 0 ∨ (rPn u.1 u.2 (u.1 7) ∧ mz u.1 u.2 (u.1 7) < mz g a (g 7 + 1))) ∧ (tkR tT tN u.1 u.2) ∧ (nst tT tN g a u.1 u.2 z)) (fun u t => va_P (dC, dI) vwCl (mG ad ca u.1 u.2) t.heap ∧ va_K (dC, dI) vwCl (mT ca) t ∧ va_D A (mG ad ca u.1 u.2)) A) ([.ref (ad 0)] : List Value).toArray s 0 0 A = Q
  suffices ST : ∀ (H : Heap) (locs : List Loc), va_P (dC, dI) vwCl (mG ad ca g a) H → va_S A s.heap H locs → W p l e ({ frames := 7, cells := 0, slots := 0, locals := 153 }) s m ([.ref (ad 0)] : List Value).toArray below meth c H locs 0 0 Q (F0 m 0 ls []) from ST _ _ hP hS
  clear hP hS
  intro H locs hP hS
  obtain ⟨bb1, bb2, bb3, bb4, bb5, bb6⟩ := bd_1 hrP1
  have bb7 := tkk_b (g 3)
  have b7_0 : 0 ≤ g 7 ∧ g 7 ≤ 1200 := hI.1 7
  have b1_0 : 0 ≤ g 1 ∧ g 1 ≤ 600 := hI.1 1
  have b2_0 : 0 ≤ g 2 ∧ g 2 ≤ 600 := hI.1 2
  refine lv_aload_n hx hb dX13_compares_0 rfl (lv_at hl 0 rfl) ?_
  refine lv_bipush (v := iI 60) hx hb dX13_compares_1 rfl ?_
  refine jc_i (va_runV (As := [.int (iI 60)]) (rest := []) ⟨hx, hb, hml, hown, hts⟩ (sX13_isSign l dC dI _ ad ca g a 60 hI (by omega)) (cwV 1 hts (jgoodV m_227 m_389 m_390 m_503 m_161) rfl rfl rfl (by decide +kernel) ⟨(Nat.le_of_ble_eq_true rfl), (Nat.le_of_ble_eq_true rfl)⟩) ⟨jw_blind, va_recv hK hP (ci := 13) (q0 := 0) rfl rfl, fun U hU hW => ⟨rfl, jw_of hU hW hP hK hD⟩⟩ rfl rfl hl.1 rfl (lv_room (Nat.le_of_ble_eq_true rfl)) dX13_compares_3 ⟨(Nat.le_of_ble_eq_true rfl), (Nat.le_of_ble_eq_true rfl)⟩) hP hS hA (fun r_1 H locs w_2 hP hS => ?_)
  obtain ⟨z_3, rfl, h_4, h_5⟩ := w_2
  have b_6 : 0 ≤ g 3 ∧ g 3 ≤ 4 := hI.1 3
  have J29 : ∀ (H : Heap) (locs : List Loc) (ls : Array Slot), (g 3 = 3) → (g 5 = 60 ∨ g 5 = 62 ∨ g 5 = 61) → va_P (dC, dI) vwCl (mG ad ca g a) H → va_D A (mG ad ca g a) → va_S A s.heap H locs → lv_has ls 1 [(0, .ref (ad 0))] → W p l e ({ frames := 7, cells := 0, slots := 0, locals := 153 }) s m ([.ref (ad 0)] : List Value).toArray below meth c H locs 0 0 Q (F0 m 29 ls []) := by
    intro H locs ls h_7 h_8 hP hD hS hl
    refine lv_aload_n hx hb dX13_compares_29 rfl (lv_at hl 0 rfl) ?_
    refine lv_sipush (v := iI 1000) hx hb dX13_compares_30 rfl ?_
    refine lv_aload_n hx hb dX13_compares_33 rfl (lv_at hl 0 rfl) ?_
    refine lv_bipush (v := iI 60) hx hb dX13_compares_34 rfl ?_
    refine jc_i (va_runV (As := [.int (iI 60)]) (rest := [.int (iI 1000), .ref (ad 0)]) ⟨hx, hb, hml, hown, hts⟩ (sX13_isSign l dC dI _ ad ca g a 60 hI (by omega)) (cwV 1 hts (jgoodV m_227 m_389 m_390 m_503 m_161) rfl rfl rfl (by decide +kernel) ⟨(Nat.le_of_ble_eq_true rfl), (Nat.le_of_ble_eq_true rfl)⟩) ⟨jw_blind, va_recv hK hP (ci := 13) (q0 := 0) rfl rfl, fun U hU hW => ⟨rfl, jw_of hU hW hP hK hD⟩⟩ rfl rfl hl.1 rfl (lv_room (Nat.le_of_ble_eq_true rfl)) dX13_compares_36 ⟨(Nat.le_of_ble_eq_true rfl), (Nat.le_of_ble_eq_true rfl)⟩) hP hS hA (fun r_9 H locs w_10 hP hS => ?_)
    obtain ⟨z_11, rfl, h_12, h_13⟩ := w_10
    have b_14 : 0 ≤ g 3 ∧ g 3 ≤ 4 := hI.1 3
    have J63 : ∀ (s0_63 : Int) (H : Heap) (locs : List Loc) (ls : Array Slot), (6 ≤ s0_63 ∧ s0_63 ≤ 8) → (6 ≤ s0_63 ∧ s0_63 ≤ 8) → va_P (dC, dI) vwCl (mG ad ca g a) H → va_D A (mG ad ca g a) → va_S A s.heap H locs → lv_has ls 1 [(0, .ref (ad 0))] → W p l e ({ frames := 7, cells := 0, slots := 0, locals := 153 }) s m ([.ref (ad 0)] : List Value).toArray below meth c H locs 0 0 Q (F0 m 63 ls [.int (iI s0_63), .int (iI 1000), .ref (ad 0)]) := by
      intro s0_63 H locs ls h_15 h_16 hP hD hS hl
      refine xr_add hx hb dX13_compares_63 ?_
      refine jcg_v (va_runV (As := [.int (iI (1000 + s0_63))]) (rest := []) ⟨hx, hb, hml, hown, hts⟩ (sX13_push l dC dI _ ad ca g a (1000 + s0_63) hI (by omega) (by omega)) (cwV 1 hts (jgoodV m_225 m_452 m_453 m_503 m_194) rfl rfl rfl (by decide +kernel) ⟨(Nat.le_of_ble_eq_true rfl), (Nat.le_of_ble_eq_true rfl)⟩) ⟨jw_blind, va_recv hK hP (ci := 13) (q0 := 0) rfl rfl, fun U hU hW => ⟨rfl, jw_of hU hW hP hK hD⟩⟩ rfl rfl hl.1 rfl (lv_room (Nat.le_of_ble_eq_true rfl)) dX13_compares_64 ⟨(Nat.le_of_ble_eq_true rfl), (Nat.le_of_ble_eq_true rfl)⟩) hD hS hA (fun u_24 H locs w_18 hP hK hD hS => ?_)
      obtain ⟨g_22, a_23⟩ := u_24
      obtain ⟨hI, hfr_25, hfr_26, h_20, h_21⟩ := w_18
      have hP : va_P (dC, dI) vwCl (mG ad ca g_22 a_23) H := hP
      have hD : va_D A (mG ad ca g_22 a_23) := hD
      have hfA : ∀ j, j ∉ ([2, 3, 4, 5, 7] : List Nat) → g_22 j = g j := fun j h => (hfr_25 j (fun q => h (by first | exact q | (simp only [List.mem_cons, List.not_mem_nil, or_false] at q ⊢ <;> omega)))).trans (hfA j h)
      have b_28 : g_22 1 = g 1 := hfA 1 (by decide)
      have b_29 : g_22 8 = g 8 := hfA 8 (by decide)
      have b_30 : g_22 9 = g 9 := hfA 9 (by decide)
      have b_31 : g_22 12 = g 12 := hfA 12 (by decide)
      have b_32 : g_22 15 = g 15 := hfA 15 (by decide)
      have b_33 := hfr_25 2 (by decide)
      have b_34 := hfr_25 3 (by decide)
      have b_35 := hfr_25 4 (by decide)
      have b_36 := hfr_25 5 (by decide)
      have haA : ∀ j, j ∉ ([2] : List Nat) → a_23 j = a j := fun j h => (hfr_26 j (fun q => h (by first | exact q | (simp only [List.mem_cons, List.not_mem_nil, or_false] at q ⊢ <;> omega)))).trans (haA j h)
      have h_20 : g_22 7 = g 7 + 1 := h_20
      have h_21 : a_23 2 = up (a 2) (g 7) (1000 + s0_63) := h_21
      have b_37 : g_22 1 = g 1 := hfr_25 1 (by decide)
      have b_38 : g_22 2 = g 2 := hfr_25 2 (by decide)
      have b_39 : g_22 3 = g 3 := hfr_25 3 (by decide)
      have b_40 : g_22 4 = g 4 := hfr_25 4 (by decide)
      have b_41 : g_22 8 = g 8 := hfr_25 8 (by decide)
      have b_42 : g_22 9 = g 9 := hfr_25 9 (by decide)
      have b_43 : g_22 12 = g 12 := hfr_25 12 (by decide)
      have b_44 : g_22 15 = g 15 := hfr_25 15 (by decide)
      have b_45 : g_22 5 = g 5 := hfr_25 5 (by decide)
      have t_46 : a_23 2 = up (a 2) (g 7) (1000 + s0_63) := h_21.trans (up_c rfl (by omega) (by omega))
      have t_47 : a_23 3 = a 3 := (hfr_26 3 (by decide)).trans rfl
      have t_48 : a_23 4 = a 4 := (hfr_26 4 (by decide)).trans rfl
      have t_49 : a_23 5 = a 5 := (hfr_26 5 (by decide)).trans rfl
      have t_50 : a_23 6 = a 6 := (hfr_26 6 (by decide)).trans rfl
      have t_51 : a_23 7 = a 7 := (hfr_26 7 (by decide)).trans rfl
      have t_52 : a_23 8 = a 8 := (hfr_26 8 (by decide)).trans rfl
      have b_53 : 0 ≤ g_22 7 ∧ g_22 7 ≤ 1200 := hI.1 7
      refine lv_aload_n hx hb dX13_compares_67 rfl (lv_at hl 0 rfl) ?_
      refine lv_iconst (v := iI 1) hx hb dX13_compares_68 rfl ?_
      refine jcg_v (va_runV (As := [.int (iI 1)]) (rest := []) ⟨hx, hb, hml, hown, hts⟩ (sX13_push l dC dI _ ad ca g_22 a_23 1 hI (by omega) (by omega)) (cwV 1 hts (jgoodV m_225 m_452 m_453 m_503 m_194) rfl rfl rfl (by decide +kernel) ⟨(Nat.le_of_ble_eq_true rfl), (Nat.le_of_ble_eq_true rfl)⟩) ⟨jw_blind, va_recv hK hP (ci := 13) (q0 := 0) rfl rfl, fun U hU hW => ⟨rfl, jw_of hU hW hP hK hD⟩⟩ rfl rfl hl.1 rfl (lv_room (Nat.le_of_ble_eq_true rfl)) dX13_compares_69 ⟨(Nat.le_of_ble_eq_true rfl), (Nat.le_of_ble_eq_true rfl)⟩) hD hS hA (fun u_61 H locs w_55 hP hK hD hS => ?_)
      obtain ⟨g_59, a_60⟩ := u_61
      obtain ⟨hI, hfr_62, hfr_63, h_57, h_58⟩ := w_55
      have hP : va_P (dC, dI) vwCl (mG ad ca g_59 a_60) H := hP
      have hD : va_D A (mG ad ca g_59 a_60) := hD
      have hfA : ∀ j, j ∉ ([2, 3, 4, 5, 7] : List Nat) → g_59 j = g j := fun j h => (hfr_62 j (fun q => h (by first | exact q | (simp only [List.mem_cons, List.not_mem_nil, or_false] at q ⊢ <;> omega)))).trans (hfA j h)
      have b_65 : g_59 1 = g 1 := hfA 1 (by decide)
      have b_66 : g_59 8 = g 8 := hfA 8 (by decide)
      have b_67 : g_59 9 = g 9 := hfA 9 (by decide)
      have b_68 : g_59 12 = g 12 := hfA 12 (by decide)
      have b_69 : g_59 15 = g 15 := hfA 15 (by decide)
      have b_70 := hfr_62 2 (by decide)
      have b_71 := hfr_62 3 (by decide)
      have b_72 := hfr_62 4 (by decide)
      have b_73 := hfr_62 5 (by decide)
      have haA : ∀ j, j ∉ ([2] : List Nat) → a_60 j = a j := fun j h => (hfr_63 j (fun q => h (by first | exact q | (simp only [List.mem_cons, List.not_mem_nil, or_false] at q ⊢ <;> omega)))).trans (haA j h)
      have h_57 : g_59 7 = g_22 7 + 1 := h_57
      have h_58 : a_60 2 = up (a_23 2) (g_22 7) 1 := h_58
      have b_74 : g_59 1 = g_22 1 := hfr_62 1 (by decide)
      have b_75 : g_59 2 = g_22 2 := hfr_62 2 (by decide)
      have b_76 : g_59 3 = g_22 3 := hfr_62 3 (by decide)
      have b_77 : g_59 4 = g_22 4 := hfr_62 4 (by decide)
      have b_78 : g_59 8 = g_22 8 := hfr_62 8 (by decide)
      have b_79 : g_59 9 = g_22 9 := hfr_62 9 (by decide)
      have b_80 : g_59 12 = g_22 12 := hfr_62 12 (by decide)
      have b_81 : g_59 15 = g_22 15 := hfr_62 15 (by decide)
      have b_82 : g_59 5 = g_22 5 := hfr_62 5 (by decide)
      have t_83 : a_60 2 = up (up (a 2) (g 7) (1000 + s0_63)) ((g 7 + 1)) 1 := h_58.trans (up_c t_46 (by omega) (by omega))
      have t_84 : a_60 3 = a 3 := (hfr_63 3 (by decide)).trans t_47
      have t_85 : a_60 4 = a 4 := (hfr_63 4 (by decide)).trans t_48
      have t_86 : a_60 5 = a 5 := (hfr_63 5 (by decide)).trans t_49
      have t_87 : a_60 6 = a 6 := (hfr_63 6 (by decide)).trans t_50
      have t_88 : a_60 7 = a 7 := (hfr_63 7 (by decide)).trans t_51
      have t_89 : a_60 8 = a 8 := (hfr_63 8 (by decide)).trans t_52
      have b_90 : 0 ≤ g_59 7 ∧ g_59 7 ≤ 1200 := hI.1 7
      refine lv_aload_n hx hb dX13_compares_72 rfl (lv_at hl 0 rfl) ?_
      refine jcg_i (va_runV (As := []) (rest := []) ⟨hx, hb, hml, hown, hts⟩ (sX13_takes l dC dI _ ad ca sK sV g_59 a_60 tT tN  hI (by omega) (txR_t (hfA 1 (by decide)) (haA 1 (by decide)) hrTx)) (cwV 0 hts (jgoodV m_228 m_480 m_481 m_503 m_208) rfl rfl rfl (by decide +kernel) ⟨(Nat.le_of_ble_eq_true rfl), (Nat.le_of_ble_eq_true rfl)⟩) ⟨mP_blind, va_recv hK hP (ci := 13) (q0 := 0) rfl rfl, fun U hU hW => ⟨rfl, mP_of hU hW hP hK hD hXs hS (fun _ h => h) hA⟩⟩ rfl rfl hl.1 rfl (lv_room (Nat.le_of_ble_eq_true rfl)) dX13_compares_73 ⟨(Nat.le_of_ble_eq_true rfl), (Nat.le_of_ble_eq_true rfl)⟩) hD hS hA (fun r_91 u_104 H locs w_92 hP hK hD hS => ?_)
      obtain ⟨g_102, a_103⟩ := u_104
      obtain ⟨z_93, rfl, hI, hfr_105, hfr_106, h_94, h_95, h_96, h_97, h_98, h_99, h_100, h_101⟩ := w_92
      have hP : va_P (dC, dI) vwCl (mG ad ca g_102 a_103) H := hP
      have hD : va_D A (mG ad ca g_102 a_103) := hD
      have hfA : ∀ j, j ∉ ([2, 3, 4, 5, 7] : List Nat) → g_102 j = g j := fun j h => (hfr_105 j (fun q => h (by first | exact q | (simp only [List.mem_cons, List.not_mem_nil, or_false] at q ⊢ <;> omega)))).trans (hfA j h)
      have b_108 : g_102 1 = g 1 := hfA 1 (by decide)
      have b_109 : g_102 8 = g 8 := hfA 8 (by decide)
      have b_110 : g_102 9 = g 9 := hfA 9 (by decide)
      have b_111 : g_102 12 = g 12 := hfA 12 (by decide)
      have b_112 : g_102 15 = g 15 := hfA 15 (by decide)
      have b_113 := hfr_105 7 (by decide)
      have haA : ∀ j, j ∉ ([2] : List Nat) → a_103 j = a j := fun j h => (hfr_106 j (fun q => h (by first | exact q | (simp only [List.mem_cons, List.not_mem_nil, or_false] at q ⊢ <;> omega)))).trans (haA j h)
      have h_96 : g_59 2 ≤ g_102 2 := h_96
      have h_97 : g_102 2 ≤ g_59 1 := h_97
      have h_98 : g_102 3 = 0 ∨ g_59 2 + 1 ≤ g_102 2 := h_98
      have h_99 : g_102 4 ≤ g_102 2 := h_99
      have h_100 : g_102 4 = scn (bB tT) tN (g_59 2) := h_100
      have h_101 : tkR tT tN g_102 a_103 := h_101
      have b_114 : g_102 1 = g_59 1 := hfr_105 1 (by decide)
      have b_115 : g_102 7 = g_59 7 := hfr_105 7 (by decide)
      have b_116 : g_102 8 = g_59 8 := hfr_105 8 (by decide)
      have b_117 : g_102 9 = g_59 9 := hfr_105 9 (by decide)
      have b_118 : g_102 12 = g_59 12 := hfr_105 12 (by decide)
      have b_119 : g_102 15 = g_59 15 := hfr_105 15 (by decide)
      have t_120 : a_103 2 = up (up (a 2) (g 7) (1000 + s0_63)) ((g 7 + 1)) 1 := (hfr_106 2 (by decide)).trans t_83
      have t_121 : a_103 3 = a 3 := (hfr_106 3 (by decide)).trans t_84
      have t_122 : a_103 4 = a 4 := (hfr_106 4 (by decide)).trans t_85
      have t_123 : a_103 5 = a 5 := (hfr_106 5 (by decide)).trans t_86
      have t_124 : a_103 6 = a 6 := (hfr_106 6 (by decide)).trans t_87
      have t_125 : a_103 7 = a 7 := (hfr_106 7 (by decide)).trans t_88
      have t_126 : a_103 8 = a 8 := (hfr_106 8 (by decide)).trans t_89
      have b_127 : 0 ≤ g_102 1 ∧ g_102 1 ≤ 600 := hI.1 1
      have b_128 : 0 ≤ g_102 2 ∧ g_102 2 ≤ 600 := hI.1 2
      have e9 : g_102 4 = scn (bB tT) tN (g 2) := by rw [show g 2 = g_59 2 by omega]; exact h_100
      rw [← hQ]
      exact W.zret (v := iI z_93) (ty := .boolean) hx hb hr (nb_bool (by omega) (by omega)) (fun t ht hW => ⟨⟨iI z_93, (g_102, a_103), rfl, ⟨z_93, rfl, hI, hfA, haA, by omega, by show z_93 = 0 ∨ (rPn g_102 a_103 (g_102 7) ∧ mz g_102 a_103 (g_102 7) < mz g a (g 7 + 1)); first | exact Or.inl rfl | exact Or.inr (st_11 (by omega) hrP1 (by omega) k1 ⟨by omega, by omega, by omega, by omega, t_121, t_122, t_123, t_124, t_125, t_126⟩ (by omega) (by omega) (by omega) (by omega) ⟨by omega, by omega, by omega⟩ t_120), by show tkR tT tN g_102 a_103; first | assumption | exact tkR_t (by omega) (by omega) (by omega) (by omega) h_101 | exact tkR_t (by omega) (by omega) (by omega) (by omega) hrTk, by show nst tT tN g a g_102 a_103 z_93; first | exact nst_n (by omega) (by omega) (nf_11 hrTk k1 (by omega) (by omega)) | exact nst_y (by omega) (by omega) (nt_11 (by omega) hrTk (by omega) (by omega) k1 (by omega) (by omega) (by omega) t_123 (by omega) t_120)⟩, by rw [ht]; exact hP, va_K.moved hW.alike hK, hD⟩, hS.F ht⟩) hS.2.2 dX13_compares_76
    refine xr_if_eq (tgt := 47) hx hb dX13_compares_39 (by decide) (by omega) (fun h_129 => ?_) (fun h_129 => ?_)
    · refine lv_aload_n hx hb dX13_compares_47 rfl (lv_at hl 0 rfl) ?_
      refine lv_bipush (v := iI 62) hx hb dX13_compares_48 rfl ?_
      refine jc_i (va_runV (As := [.int (iI 62)]) (rest := [.int (iI 1000), .ref (ad 0)]) ⟨hx, hb, hml, hown, hts⟩ (sX13_isSign l dC dI _ ad ca g a 62 hI (by omega)) (cwV 1 hts (jgoodV m_227 m_389 m_390 m_503 m_161) rfl rfl rfl (by decide +kernel) ⟨(Nat.le_of_ble_eq_true rfl), (Nat.le_of_ble_eq_true rfl)⟩) ⟨jw_blind, va_recv hK hP (ci := 13) (q0 := 0) rfl rfl, fun U hU hW => ⟨rfl, jw_of hU hW hP hK hD⟩⟩ rfl rfl hl.1 rfl (lv_room (Nat.le_of_ble_eq_true rfl)) dX13_compares_50 ⟨(Nat.le_of_ble_eq_true rfl), (Nat.le_of_ble_eq_true rfl)⟩) hP hS hA (fun r_130 H locs w_131 hP hS => ?_)
      obtain ⟨z_132, rfl, h_133, h_134⟩ := w_131
      have b_135 : 0 ≤ g 3 ∧ g 3 ≤ 4 := hI.1 3
      refine xr_if_eq (tgt := 61) hx hb dX13_compares_53 (by decide) (by omega) (fun h_136 => ?_) (fun h_136 => ?_)
      · refine lv_bipush (v := iI 8) hx hb dX13_compares_61 rfl ?_
        exact J63 8 H locs ls (by omega) (by omega) hP hD hS hl
      · refine lv_bipush (v := iI 7) hx hb dX13_compares_56 rfl ?_
        refine lv_goto (tgt := 63) hx hb dX13_compares_58 (by decide) ?_
        exact J63 7 H locs ls (by omega) (by omega) hP hD hS hl
    · refine lv_bipush (v := iI 6) hx hb dX13_compares_42 rfl ?_
      refine lv_goto (tgt := 63) hx hb dX13_compares_44 (by decide) ?_
      exact J63 6 H locs ls (by omega) (by omega) hP hD hS hl
  refine xr_if_ne (tgt := 29) hx hb dX13_compares_6 (by decide) (by omega) (fun h_137 => ?_) (fun h_137 => ?_)
  · exact J29 H locs ls (by omega) (by omega) hP hD hS hl
  · refine lv_aload_n hx hb dX13_compares_9 rfl (lv_at hl 0 rfl) ?_
    refine lv_bipush (v := iI 62) hx hb dX13_compares_10 rfl ?_
    refine jc_i (va_runV (As := [.int (iI 62)]) (rest := []) ⟨hx, hb, hml, hown, hts⟩ (sX13_isSign l dC dI _ ad ca g a 62 hI (by omega)) (cwV 1 hts (jgoodV m_227 m_389 m_390 m_503 m_161) rfl rfl rfl (by decide +kernel) ⟨(Nat.le_of_ble_eq_true rfl), (Nat.le_of_ble_eq_true rfl)⟩) ⟨jw_blind, va_recv hK hP (ci := 13) (q0 := 0) rfl rfl, fun U hU hW => ⟨rfl, jw_of hU hW hP hK hD⟩⟩ rfl rfl hl.1 rfl (lv_room (Nat.le_of_ble_eq_true rfl)) dX13_compares_12 ⟨(Nat.le_of_ble_eq_true rfl), (Nat.le_of_ble_eq_true rfl)⟩) hP hS hA (fun r_138 H locs w_139 hP hS => ?_)
    obtain ⟨z_140, rfl, h_141, h_142⟩ := w_139
    have b_143 : 0 ≤ g 3 ∧ g 3 ≤ 4 := hI.1 3
    refine xr_if_ne (tgt := 29) hx hb dX13_compares_15 (by decide) (by omega) (fun h_144 => ?_) (fun h_144 => ?_)
    · exact J29 H locs ls (by omega) (by omega) hP hD hS hl
    · refine lv_aload_n hx hb dX13_compares_18 rfl (lv_at hl 0 rfl) ?_
      refine lv_bipush (v := iI 61) hx hb dX13_compares_19 rfl ?_
      refine jc_i (va_runV (As := [.int (iI 61)]) (rest := []) ⟨hx, hb, hml, hown, hts⟩ (sX13_isSign l dC dI _ ad ca g a 61 hI (by omega)) (cwV 1 hts (jgoodV m_227 m_389 m_390 m_503 m_161) rfl rfl rfl (by decide +kernel) ⟨(Nat.le_of_ble_eq_true rfl), (Nat.le_of_ble_eq_true rfl)⟩) ⟨jw_blind, va_recv hK hP (ci := 13) (q0 := 0) rfl rfl, fun U hU hW => ⟨rfl, jw_of hU hW hP hK hD⟩⟩ rfl rfl hl.1 rfl (lv_room (Nat.le_of_ble_eq_true rfl)) dX13_compares_21 ⟨(Nat.le_of_ble_eq_true rfl), (Nat.le_of_ble_eq_true rfl)⟩) hP hS hA (fun r_145 H locs w_146 hP hS => ?_)
      obtain ⟨z_147, rfl, h_148, h_149⟩ := w_146
      have b_150 : 0 ≤ g 3 ∧ g 3 ≤ 4 := hI.1 3
      refine xr_if_ne (tgt := 29) hx hb dX13_compares_24 (by decide) (by omega) (fun h_151 => ?_) (fun h_151 => ?_)
      · exact J29 H locs ls (by omega) (by omega) hP hD hS hl
      · refine lv_iconst (v := iI 0) hx hb dX13_compares_27 rfl ?_
        rw [← hQ]
        exact W.zret (v := iI 0) (ty := .boolean) hx hb hr (nb_bool (by omega) (by omega)) (fun t ht hW => ⟨⟨iI 0, (g, a), rfl, ⟨0, rfl, hI, hfA, haA, by omega, by show 0 = 0 ∨ (rPn g a (g 7) ∧ mz g a (g 7) < mz g a (g 7 + 1)); first | exact Or.inl rfl | exact Or.inr (st_11 (by omega) hrP1 (by omega) k1 ⟨by omega, by omega, by omega, by omega, rfl, rfl, rfl, rfl, rfl, rfl⟩ (by omega) (by omega) (by omega) (by omega) ⟨by omega, by omega, by omega⟩ rfl), by show tkR tT tN g a; first | assumption | exact tkR_t (by omega) (by omega) (by omega) (by omega) _ | exact tkR_t (by omega) (by omega) (by omega) (by omega) hrTk, by show nst tT tN g a g a 0; first | exact nst_n (by omega) (by omega) (nf_11 hrTk k1 (by omega) (by omega)) | exact nst_y (by omega) (by omega) (nt_11 (by omega) hrTk (by omega) (by omega) k1 (by omega) (by omega) (by omega) rfl (by omega) rfl)⟩, by rw [ht]; exact hP, va_K.moved hW.alike hK, hD⟩, hS.F ht⟩) hS.2.2 dX13_compares_28
set_option maxHeartbeats 2000000 in
set_option maxRecDepth 100000 in
theorem sX13_begins (l : Launch) (dC : Nat → ClassId) (dI : Nat → Nat → Nat) (sz : Nat) (ad : Nat → Nat) (ca : Nat → ClassId) (sK sV : Nat → Nat) (g : Nat → Int) (a : Nat → Int → Int) (tT : Int → Int) (tN : Int) (p1 : Int) (p2 : Int) (hI : mI g a) (q1 : rg p1) (q2 : rg p2) (k1 : 0 ≤ p1 ∧ p1 < 14) (k2 : p2 = 1 ∨ p2 = 6) (k3 : g 3 = 2) (hrM : rM g a) (hrTx : txR tT tN g a) (hrTk : tkR tT tN g a) : Met l yX13_begins (jk yX13_begins cX13_begins 3 (some .boolean)) ({ frames := 7, cells := 0, slots := 0, locals := 153 }) (va_Pc [.ref (ad 0), .int (iI p1), .int (iI p2)] (mP (dC, dI) (mG ad ca g a) (mT ca) sK sV sz)) (va_Qi (fun (r : Int32) (u : (Nat → Int) × (Nat → Int → Int)) => ∃ z : Int, r = iI z ∧ (mI u.1 u.2) ∧ (∀ j, j ∉ ([2, 3, 4, 5, 7, 9] : List Nat) → u.1 j = g j) ∧ (∀ j, j ∉ ([2, 5] : List Nat) → u.2 j = a j) ∧ (0 ≤ z ∧ z ≤ 1) ∧ (z = 0 ∨ (rPn u.1 u.2 (u.1 7) ∧ mz u.1 u.2 (u.1 7) ≤ mB g)) ∧ (tkR tT tN u.1 u.2) ∧ (bgR tT tN g a u.1 u.2 p1 p2 z)) (fun u t => va_P (dC, dI) vwCl (mG ad ca u.1 u.2) t.heap ∧ va_K (dC, dI) vwCl (mT ca) t ∧ va_D (va_A (mG ad ca g a) sz) (mG ad ca u.1 u.2)) (va_A (mG ad ca g a) sz)) 0 0 (va_A (mG ad ca g a) sz) := by
  refine Met.ofW (cc := cX13_begins) (maxL := 3) (ret := (some .boolean)) (by decide) rfl ?_
  intro p e s m args below meth c s₁ B hml hv
  obtain ⟨rfl, ⟨hsz, hP, hK, hD0⟩, hX0⟩ := hv
  have hx := B.exec
  have hb := B.bytes
  have hr := B.returns
  have hts := atoms_spec (ws := (jk yX13_begins cX13_begins 3 (some .boolean))) B.pre
  have hj : ∀ w ∈ jw, w.before ([.ref (ad 0), .int (iI p1), .int (iI p2)] : List Value).toArray s = true := fun w h => hts w (jm h)
  have hown : s.vm.findClass RX13 = some m.cls := findClass_of_methodNamed B.named
  subst hsz
  have hD := hD0.self (sz := s.heap.size)
  have hXs := hX0
  generalize hAe : (va_A (mG ad ca g a) s.heap.size) = A at hD hXs ⊢
  have hA : ∀ q : Nat, s.heap.size ≤ q → A q := fun q h => by rw [← hAe]; exact Or.inr h
  have hS : va_S A s.heap s.heap [] := va_S.rf
  have hP : va_P (dC, dI) vwCl (mG ad ca g a) s.heap := hP
  have hfA : ∀ j, j ∉ ([2, 3, 4, 5, 7, 9] : List Nat) → g j = g j := fun _ _ => rfl
  have haA : ∀ j, j ∉ ([2, 5] : List Nat) → a j = a j := fun _ _ => rfl
  have hl := lv_entry ([.ref (ad 0), .int (iI p1), .int (iI p2)]) (n := 3) (Nat.le_of_ble_eq_true rfl)
  rw [lg_entry_eq]
  generalize (lg_sl ([.ref (ad 0), .int (iI p1), .int (iI p2)]) ++ List.replicate (3 - (lg_sl ([.ref (ad 0), .int (iI p1), .int (iI p2)])).length) Slot.unset).toArray = ls at hl ⊢
  have hl : lv_has ls 3 [(0, .ref (ad 0)), (1, .int (iI p1)), (2, .int (iI p2))] := hl
  generalize hQ : MQ below (va_Qi (fun (r : Int32) (u : (Nat → Int) × (Nat → Int → Int)) => ∃ z : Int, r = iI z ∧ (mI u.1 u.2) ∧ (∀ j, j ∉ ([2, 3, 4, 5, 7, 9] : List Nat) → u.1 j = g j) ∧ (∀ j, j ∉ ([2, 5] : List Nat) → u.2 j = a j) ∧ (0 ≤ z ∧ z ≤ 1) ∧ (z = 0 ∨ (rPn u.1 u.2 (u.1 7) ∧ mz u.1 u.2 (u.1 7) ≤ mB g)) ∧ (tkR tT tN u.1 u.2) ∧ (bgR tT tN g a u.1 u.2 p1 p2 z)) (fun u t => va_P (dC, dI) vwCl (mG ad ca u.1 u.2) t.heap ∧ va_K (dC, dI) vwCl (mT ca) t ∧ va_D A (mG ad ca u.1 u.2)) A) ([.ref (ad 0), .int (iI p1), .int (iI p2)] : List Value).toArray s 0 0 A = Q
  suffices ST : ∀ (H : Heap) (locs : List Loc), va_P (dC, dI) vwCl (mG ad ca g a) H → va_S A s.heap H locs → W p l e ({ frames := 7, cells := 0, slots := 0, locals := 153 }) s m ([.ref (ad 0), .int (iI p1), .int (iI p2)] : List Value).toArray below meth c H locs 0 0 Q (F0 m 0 ls []) from ST _ _ hP hS
  clear hP hS
  intro H locs hP hS
  obtain ⟨m1, m2, m3, m4, m5, m6, m7, m8, -, -⟩ := id hrM
  have b1_0 : 0 ≤ g 1 ∧ g 1 ≤ 600 := hI.1 1
  have b2_0 : 0 ≤ g 2 ∧ g 2 ≤ 600 := hI.1 2
  refine lv_aload_n hx hb dX13_begins_0 rfl (lv_at hl 0 rfl) ?_
  refine gf_slotBegin hx hb hj hown hK hP dX13_begins_1 ?_
  refine lv_iload_n hx hb dX13_begins_4 rfl (lv_at hl 1 rfl) ?_
  refine ld_slotBegin hx hb hK hP hI (by omega) (by omega) dX13_begins_5 (fun h_1 => ?_)
  refine lv_iconst (v := iI (-1)) hx hb dX13_begins_6 rfl ?_
  refine xr_icmp_eq (tgt := 12) hx hb dX13_begins_7 (by decide) (by omega) (by omega) (fun h_2 => ?_) (fun h_2 => ?_)
  · refine lv_aload_n hx hb dX13_begins_12 rfl (lv_at hl 0 rfl) ?_
    refine lv_iload_n hx hb dX13_begins_13 rfl (lv_at hl 1 rfl) ?_
    refine pf_slot hx hb hj hown hK hP hD hS hI (by omega) (by omega) dX13_begins_14 (fun g_3 H locs e_4 e_5 hI hP hD hS => ?_)
    have hfA : ∀ j, j ∉ ([2, 3, 4, 5, 7, 9] : List Nat) → g_3 j = g j := fun j h => (e_4 j (fun q => h (q ▸ (by decide : 9 ∈ ([2, 3, 4, 5, 7, 9] : List Nat))))).trans (hfA j h)
    have b_6 := e_4 2 (by decide)
    have b_7 := e_4 3 (by decide)
    have b_8 := e_4 4 (by decide)
    have b_9 := e_4 5 (by decide)
    have b_10 := e_4 7 (by decide)
    have b_11 : g_3 1 = g 1 := hfA 1 (by decide)
    have b_12 : g_3 8 = g 8 := hfA 8 (by decide)
    have b_13 : g_3 12 = g 12 := hfA 12 (by decide)
    have b_14 : g_3 15 = g 15 := hfA 15 (by decide)
    have b_15 := e_4 1 (by decide)
    have b_16 := e_4 2 (by decide)
    have b_17 := e_4 3 (by decide)
    have b_18 := e_4 4 (by decide)
    have b_19 := e_4 7 (by decide)
    have b_20 := e_4 8 (by decide)
    have b_21 := e_4 12 (by decide)
    have b_22 := e_4 15 (by decide)
    have b_23 := e_4 5 (by decide)
    refine lv_aload_n hx hb dX13_begins_17 rfl (lv_at hl 0 rfl) ?_
    refine gf_slotBegin hx hb hj hown hK hP dX13_begins_18 ?_
    refine lv_iload_n hx hb dX13_begins_21 rfl (lv_at hl 1 rfl) ?_
    refine lv_aload_n hx hb dX13_begins_22 rfl (lv_at hl 0 rfl) ?_
    refine gf_doing hx hb hj hown hK hP hI dX13_begins_23 (fun h_24 => ?_)
    refine st_slotBegin hx hb hK hP hD hS hI (by omega) (by omega) (by omega) (by omega) dX13_begins_26 (fun a_25 H locs e_26 e_27 hI hP hD hS => ?_)
    have haA : ∀ j, j ∉ ([2, 5] : List Nat) → a_25 j = a j := fun j h => (e_26 j (fun q => h (q ▸ (by decide : 5 ∈ ([2, 5] : List Nat))))).trans (haA j h)
    have t_28 : a_25 2 = a 2 := (e_26 2 (by decide)).trans rfl
    have t_29 : a_25 3 = a 3 := (e_26 3 (by decide)).trans rfl
    have t_30 : a_25 4 = a 4 := (e_26 4 (by decide)).trans rfl
    have t_31 : a_25 5 = up (a 5) p1 (g 12) := e_27.trans (up_c rfl (by omega) (by omega))
    have t_32 : a_25 6 = a 6 := (e_26 6 (by decide)).trans rfl
    have t_33 : a_25 7 = a 7 := (e_26 7 (by decide)).trans rfl
    have t_34 : a_25 8 = a 8 := (e_26 8 (by decide)).trans rfl
    refine lv_aload_n hx hb dX13_begins_27 rfl (lv_at hl 0 rfl) ?_
    refine lv_bipush (v := iI 13) hx hb dX13_begins_28 rfl ?_
    refine jcg_v (va_runV (As := [.int (iI 13)]) (rest := []) ⟨hx, hb, hml, hown, hts⟩ (sX13_push l dC dI _ ad ca g_3 a_25 13 hI (by omega) (by omega)) (cwV 1 hts (jgoodV m_225 m_452 m_453 m_503 m_194) rfl rfl rfl (by decide +kernel) ⟨(Nat.le_of_ble_eq_true rfl), (Nat.le_of_ble_eq_true rfl)⟩) ⟨jw_blind, va_recv hK hP (ci := 13) (q0 := 0) rfl rfl, fun U hU hW => ⟨rfl, jw_of hU hW hP hK hD⟩⟩ rfl rfl hl.1 rfl (lv_room (Nat.le_of_ble_eq_true rfl)) dX13_begins_30 ⟨(Nat.le_of_ble_eq_true rfl), (Nat.le_of_ble_eq_true rfl)⟩) hD hS hA (fun u_42 H locs w_36 hP hK hD hS => ?_)
    obtain ⟨g_40, a_41⟩ := u_42
    obtain ⟨hI, hfr_43, hfr_44, h_38, h_39⟩ := w_36
    have hP : va_P (dC, dI) vwCl (mG ad ca g_40 a_41) H := hP
    have hD : va_D A (mG ad ca g_40 a_41) := hD
    have hfA : ∀ j, j ∉ ([2, 3, 4, 5, 7, 9] : List Nat) → g_40 j = g j := fun j h => (hfr_43 j (fun q => h (by first | exact q | (simp only [List.mem_cons, List.not_mem_nil, or_false] at q ⊢ <;> omega)))).trans (hfA j h)
    have b_46 : g_40 1 = g 1 := hfA 1 (by decide)
    have b_47 : g_40 8 = g 8 := hfA 8 (by decide)
    have b_48 : g_40 12 = g 12 := hfA 12 (by decide)
    have b_49 : g_40 15 = g 15 := hfA 15 (by decide)
    have b_50 := hfr_43 2 (by decide)
    have b_51 := hfr_43 3 (by decide)
    have b_52 := hfr_43 4 (by decide)
    have b_53 := hfr_43 5 (by decide)
    have b_54 := hfr_43 9 (by decide)
    have haA : ∀ j, j ∉ ([2, 5] : List Nat) → a_41 j = a j := fun j h => (hfr_44 j (fun q => h (by first | exact q | (simp only [List.mem_cons, List.not_mem_nil, or_false] at q ⊢ <;> omega)))).trans (haA j h)
    have h_38 : g_40 7 = g_3 7 + 1 := h_38
    have h_39 : a_41 2 = up (a_25 2) (g_3 7) 13 := h_39
    have b_55 : g_40 1 = g_3 1 := hfr_43 1 (by decide)
    have b_56 : g_40 2 = g_3 2 := hfr_43 2 (by decide)
    have b_57 : g_40 3 = g_3 3 := hfr_43 3 (by decide)
    have b_58 : g_40 4 = g_3 4 := hfr_43 4 (by decide)
    have b_59 : g_40 8 = g_3 8 := hfr_43 8 (by decide)
    have b_60 : g_40 9 = g_3 9 := hfr_43 9 (by decide)
    have b_61 : g_40 12 = g_3 12 := hfr_43 12 (by decide)
    have b_62 : g_40 15 = g_3 15 := hfr_43 15 (by decide)
    have b_63 : g_40 5 = g_3 5 := hfr_43 5 (by decide)
    have t_64 : a_41 2 = up (a 2) (g 7) 13 := h_39.trans (up_c t_28 (by omega) (by omega))
    have t_65 : a_41 3 = a 3 := (hfr_44 3 (by decide)).trans t_29
    have t_66 : a_41 4 = a 4 := (hfr_44 4 (by decide)).trans t_30
    have t_67 : a_41 5 = up (a 5) p1 (g 12) := (hfr_44 5 (by decide)).trans t_31
    have t_68 : a_41 6 = a 6 := (hfr_44 6 (by decide)).trans t_32
    have t_69 : a_41 7 = a 7 := (hfr_44 7 (by decide)).trans t_33
    have t_70 : a_41 8 = a 8 := (hfr_44 8 (by decide)).trans t_34
    have b_71 : 0 ≤ g_40 7 ∧ g_40 7 ≤ 1200 := hI.1 7
    refine lv_aload_n hx hb dX13_begins_33 rfl (lv_at hl 0 rfl) ?_
    refine lv_iload_n hx hb dX13_begins_34 rfl (lv_at hl 2 rfl) ?_
    refine jcg_v (va_runV (As := [.int (iI p2)]) (rest := []) ⟨hx, hb, hml, hown, hts⟩ (sX13_push l dC dI _ ad ca g_40 a_41 p2 hI (by omega) (by omega)) (cwV 1 hts (jgoodV m_225 m_452 m_453 m_503 m_194) rfl rfl rfl (by decide +kernel) ⟨(Nat.le_of_ble_eq_true rfl), (Nat.le_of_ble_eq_true rfl)⟩) ⟨jw_blind, va_recv hK hP (ci := 13) (q0 := 0) rfl rfl, fun U hU hW => ⟨rfl, jw_of hU hW hP hK hD⟩⟩ rfl rfl hl.1 rfl (lv_room (Nat.le_of_ble_eq_true rfl)) dX13_begins_35 ⟨(Nat.le_of_ble_eq_true rfl), (Nat.le_of_ble_eq_true rfl)⟩) hD hS hA (fun u_79 H locs w_73 hP hK hD hS => ?_)
    obtain ⟨g_77, a_78⟩ := u_79
    obtain ⟨hI, hfr_80, hfr_81, h_75, h_76⟩ := w_73
    have hP : va_P (dC, dI) vwCl (mG ad ca g_77 a_78) H := hP
    have hD : va_D A (mG ad ca g_77 a_78) := hD
    have hfA : ∀ j, j ∉ ([2, 3, 4, 5, 7, 9] : List Nat) → g_77 j = g j := fun j h => (hfr_80 j (fun q => h (by first | exact q | (simp only [List.mem_cons, List.not_mem_nil, or_false] at q ⊢ <;> omega)))).trans (hfA j h)
    have b_83 : g_77 1 = g 1 := hfA 1 (by decide)
    have b_84 : g_77 8 = g 8 := hfA 8 (by decide)
    have b_85 : g_77 12 = g 12 := hfA 12 (by decide)
    have b_86 : g_77 15 = g 15 := hfA 15 (by decide)
    have b_87 := hfr_80 2 (by decide)
    have b_88 := hfr_80 3 (by decide)
    have b_89 := hfr_80 4 (by decide)
    have b_90 := hfr_80 5 (by decide)
    have b_91 := hfr_80 9 (by decide)
    have haA : ∀ j, j ∉ ([2, 5] : List Nat) → a_78 j = a j := fun j h => (hfr_81 j (fun q => h (by first | exact q | (simp only [List.mem_cons, List.not_mem_nil, or_false] at q ⊢ <;> omega)))).trans (haA j h)
    have h_75 : g_77 7 = g_40 7 + 1 := h_75
    have h_76 : a_78 2 = up (a_41 2) (g_40 7) p2 := h_76
    have b_92 : g_77 1 = g_40 1 := hfr_80 1 (by decide)
    have b_93 : g_77 2 = g_40 2 := hfr_80 2 (by decide)
    have b_94 : g_77 3 = g_40 3 := hfr_80 3 (by decide)
    have b_95 : g_77 4 = g_40 4 := hfr_80 4 (by decide)
    have b_96 : g_77 8 = g_40 8 := hfr_80 8 (by decide)
    have b_97 : g_77 9 = g_40 9 := hfr_80 9 (by decide)
    have b_98 : g_77 12 = g_40 12 := hfr_80 12 (by decide)
    have b_99 : g_77 15 = g_40 15 := hfr_80 15 (by decide)
    have b_100 : g_77 5 = g_40 5 := hfr_80 5 (by decide)
    have t_101 : a_78 2 = up (up (a 2) (g 7) 13) ((g 7 + 1)) p2 := h_76.trans (up_c t_64 (by omega) (by omega))
    have t_102 : a_78 3 = a 3 := (hfr_81 3 (by decide)).trans t_65
    have t_103 : a_78 4 = a 4 := (hfr_81 4 (by decide)).trans t_66
    have t_104 : a_78 5 = up (a 5) p1 (g 12) := (hfr_81 5 (by decide)).trans t_67
    have t_105 : a_78 6 = a 6 := (hfr_81 6 (by decide)).trans t_68
    have t_106 : a_78 7 = a 7 := (hfr_81 7 (by decide)).trans t_69
    have t_107 : a_78 8 = a 8 := (hfr_81 8 (by decide)).trans t_70
    have b_108 : 0 ≤ g_77 7 ∧ g_77 7 ≤ 1200 := hI.1 7
    refine lv_aload_n hx hb dX13_begins_38 rfl (lv_at hl 0 rfl) ?_
    refine jcg_i (va_runV (As := []) (rest := []) ⟨hx, hb, hml, hown, hts⟩ (sX13_takes l dC dI _ ad ca sK sV g_77 a_78 tT tN  hI (by omega) (txR_t (hfA 1 (by decide)) (haA 1 (by decide)) hrTx)) (cwV 0 hts (jgoodV m_228 m_480 m_481 m_503 m_208) rfl rfl rfl (by decide +kernel) ⟨(Nat.le_of_ble_eq_true rfl), (Nat.le_of_ble_eq_true rfl)⟩) ⟨mP_blind, va_recv hK hP (ci := 13) (q0 := 0) rfl rfl, fun U hU hW => ⟨rfl, mP_of hU hW hP hK hD hXs hS (fun _ h => h) hA⟩⟩ rfl rfl hl.1 rfl (lv_room (Nat.le_of_ble_eq_true rfl)) dX13_begins_39 ⟨(Nat.le_of_ble_eq_true rfl), (Nat.le_of_ble_eq_true rfl)⟩) hD hS hA (fun r_109 u_122 H locs w_110 hP hK hD hS => ?_)
    obtain ⟨g_120, a_121⟩ := u_122
    obtain ⟨z_111, rfl, hI, hfr_123, hfr_124, h_112, h_113, h_114, h_115, h_116, h_117, h_118, h_119⟩ := w_110
    have hP : va_P (dC, dI) vwCl (mG ad ca g_120 a_121) H := hP
    have hD : va_D A (mG ad ca g_120 a_121) := hD
    have hfA : ∀ j, j ∉ ([2, 3, 4, 5, 7, 9] : List Nat) → g_120 j = g j := fun j h => (hfr_123 j (fun q => h (by first | exact q | (simp only [List.mem_cons, List.not_mem_nil, or_false] at q ⊢ <;> omega)))).trans (hfA j h)
    have b_126 : g_120 1 = g 1 := hfA 1 (by decide)
    have b_127 : g_120 8 = g 8 := hfA 8 (by decide)
    have b_128 : g_120 12 = g 12 := hfA 12 (by decide)
    have b_129 : g_120 15 = g 15 := hfA 15 (by decide)
    have b_130 := hfr_123 7 (by decide)
    have b_131 := hfr_123 9 (by decide)
    have haA : ∀ j, j ∉ ([2, 5] : List Nat) → a_121 j = a j := fun j h => (hfr_124 j (fun q => h (by first | exact q | (simp only [List.mem_cons, List.not_mem_nil, or_false] at q ⊢ <;> omega)))).trans (haA j h)
    have h_114 : g_77 2 ≤ g_120 2 := h_114
    have h_115 : g_120 2 ≤ g_77 1 := h_115
    have h_116 : g_120 3 = 0 ∨ g_77 2 + 1 ≤ g_120 2 := h_116
    have h_117 : g_120 4 ≤ g_120 2 := h_117
    have h_118 : g_120 4 = scn (bB tT) tN (g_77 2) := h_118
    have h_119 : tkR tT tN g_120 a_121 := h_119
    have b_132 : g_120 1 = g_77 1 := hfr_123 1 (by decide)
    have b_133 : g_120 7 = g_77 7 := hfr_123 7 (by decide)
    have b_134 : g_120 8 = g_77 8 := hfr_123 8 (by decide)
    have b_135 : g_120 9 = g_77 9 := hfr_123 9 (by decide)
    have b_136 : g_120 12 = g_77 12 := hfr_123 12 (by decide)
    have b_137 : g_120 15 = g_77 15 := hfr_123 15 (by decide)
    have t_138 : a_121 2 = up (up (a 2) (g 7) 13) ((g 7 + 1)) p2 := (hfr_124 2 (by decide)).trans t_101
    have t_139 : a_121 3 = a 3 := (hfr_124 3 (by decide)).trans t_102
    have t_140 : a_121 4 = a 4 := (hfr_124 4 (by decide)).trans t_103
    have t_141 : a_121 5 = up (a 5) p1 (g 12) := (hfr_124 5 (by decide)).trans t_104
    have t_142 : a_121 6 = a 6 := (hfr_124 6 (by decide)).trans t_105
    have t_143 : a_121 7 = a 7 := (hfr_124 7 (by decide)).trans t_106
    have t_144 : a_121 8 = a 8 := (hfr_124 8 (by decide)).trans t_107
    have b_145 : 0 ≤ g_120 1 ∧ g_120 1 ≤ 600 := hI.1 1
    have b_146 : 0 ≤ g_120 2 ∧ g_120 2 ≤ 600 := hI.1 2
    have e9 : g_120 4 = scn (bB tT) tN (g 2) := by rw [show g 2 = g_77 2 by omega]; exact h_118
    rw [← hQ]
    exact W.zret (v := iI z_111) (ty := .boolean) hx hb hr (nb_bool (by omega) (by omega)) (fun t ht hW => ⟨⟨iI z_111, (g_120, a_121), rfl, ⟨z_111, rfl, hI, hfA, haA, by omega, by show z_111 = 0 ∨ (rPn g_120 a_121 (g_120 7) ∧ mz g_120 a_121 (g_120 7) ≤ mB g); first | exact Or.inl rfl | exact Or.inr (st_bg hrM (by omega) (by omega) (by omega) (by omega) (by omega) (by omega) (by omega) (by omega) (by omega) (by omega) t_139 t_140 t_141 t_142 t_143 t_144 ⟨by omega, by omega, by omega⟩ t_138), by show tkR tT tN g_120 a_121; first | assumption | exact tkR_t (by omega) (by omega) (by omega) (by omega) h_119 | exact tkR_t (by omega) (by omega) (by omega) (by omega) hrTk, by show bgR tT tN g a g_120 a_121 p1 p2 z_111; first | exact bgR_n (by omega) (by omega) (by omega) (by omega) (by omega) | exact bgR_y (by omega) (by omega) (by omega) hrTk (by omega) (by omega) t_138 (by omega) (by omega) (by omega) t_141 (by omega) (by omega)⟩, by rw [ht]; exact hP, va_K.moved hW.alike hK, hD⟩, hS.F ht⟩) hS.2.2 dX13_begins_42
  · refine lv_iconst (v := iI 0) hx hb dX13_begins_10 rfl ?_
    rw [← hQ]
    exact W.zret (v := iI 0) (ty := .boolean) hx hb hr (nb_bool (by omega) (by omega)) (fun t ht hW => ⟨⟨iI 0, (g, a), rfl, ⟨0, rfl, hI, hfA, haA, by omega, by show 0 = 0 ∨ (rPn g a (g 7) ∧ mz g a (g 7) ≤ mB g); first | exact Or.inl rfl | exact Or.inr (st_bg hrM (by omega) (by omega) (by omega) (by omega) (by omega) (by omega) (by omega) (by omega) (by omega) (by omega) rfl rfl rfl rfl rfl rfl ⟨by omega, by omega, by omega⟩ rfl), by show tkR tT tN g a; first | assumption | exact tkR_t (by omega) (by omega) (by omega) (by omega) _ | exact tkR_t (by omega) (by omega) (by omega) (by omega) hrTk, by show bgR tT tN g a g a p1 p2 0; first | exact bgR_n (by omega) (by omega) (by omega) (by omega) (by omega) | exact bgR_y (by omega) (by omega) (by omega) hrTk (by omega) (by omega) rfl (by omega) (by omega) (by omega) rfl (by omega) (by omega)⟩, by rw [ht]; exact hP, va_K.moved hW.alike hK, hD⟩, hS.F ht⟩) hS.2.2 dX13_begins_11
