set_option maxHeartbeats 2000000 in
set_option maxRecDepth 100000 in
theorem sX13_moreWords (l : Launch) (dC : Nat → ClassId) (dI : Nat → Nat → Nat) (sz : Nat) (ad : Nat → Nat) (ca : Nat → ClassId) (sK sV : Nat → Nat) (g : Nat → Int) (a : Nat → Int → Int) (p1 : Int) (p2 : Int) (p3 : Int) (p4 : Int) (hI : mI g a) (q1 : rg p1) (q2 : rg p2) (q3 : rg p3) (q4 : rg p4) (k1 : (p1 = 25 ∧ p2 = 10 ∧ p3 = 7 ∧ p4 = 8 ∧ a 2 (g 7) = 7) ∨ (p1 = 26 ∧ p2 = 9 ∧ p3 = 9 ∧ p4 = 10 ∧ a 2 (g 7) = 9)) (hrP1 : rP1 g a) : Met l yX13_moreWords (jk yX13_moreWords cX13_moreWords 5 (some .boolean)) ({ frames := 6, cells := 0, slots := 0, locals := 133 }) (va_Pc [.ref (ad 0), .int (iI p1), .int (iI p2), .int (iI p3), .int (iI p4)] (mP (dC, dI) (mG ad ca g a) (mT ca) sK sV sz)) (va_Qi (fun (r : Int32) (u : (Nat → Int) × (Nat → Int → Int)) => ∃ z : Int, r = iI z ∧ (mI u.1 u.2) ∧ (∀ j, j ∉ ([2, 3, 4, 5, 7] : List Nat) → u.1 j = g j) ∧ (∀ j, j ∉ ([2] : List Nat) → u.2 j = a j) ∧ (0 ≤ z ∧ z ≤ 1) ∧ (z = 0 ∨ (rPn u.1 u.2 (u.1 7) ∧ mz u.1 u.2 (u.1 7) < mz g a (g 7 + 1)))) (fun u t => va_P (dC, dI) vwCl (mG ad ca u.1 u.2) t.heap ∧ va_K (dC, dI) vwCl (mT ca) t ∧ va_D (va_A (mG ad ca g a) sz) (mG ad ca u.1 u.2)) (va_A (mG ad ca g a) sz)) 0 0 (va_A (mG ad ca g a) sz) := by
  refine Met.ofW (cc := cX13_moreWords) (maxL := 5) (ret := (some .boolean)) (by decide) rfl ?_
  intro p e s m args below meth c s₁ B hml hv
  obtain ⟨rfl, ⟨hsz, hP, hK, hD0⟩, hX0⟩ := hv
  have hx := B.exec
  have hb := B.bytes
  have hr := B.returns
  have hts := atoms_spec (ws := (jk yX13_moreWords cX13_moreWords 5 (some .boolean))) B.pre
  have hj : ∀ w ∈ jw, w.before ([.ref (ad 0), .int (iI p1), .int (iI p2), .int (iI p3), .int (iI p4)] : List Value).toArray s = true := fun w h => hts w (jm h)
  have hown : s.vm.findClass RX13 = some m.cls := findClass_of_methodNamed B.named
  subst hsz
  have hD := hD0.self (sz := s.heap.size)
  have hXs := hX0
  generalize hAe : (va_A (mG ad ca g a) s.heap.size) = A at hD hXs ⊢
  have hA : ∀ q : Nat, s.heap.size ≤ q → A q := fun q h => by rw [← hAe]; exact Or.inr h
  have hS : va_S A s.heap s.heap [] := va_S.rf
  have hP : va_P (dC, dI) vwCl (mG ad ca g a) s.heap := hP
  have hfA : ∀ j, j ∉ ([2, 3, 4, 5, 7] : List Nat) → g j = g j := fun _ _ => rfl
  have haA : ∀ j, j ∉ ([2] : List Nat) → a j = a j := fun _ _ => rfl
  have hl := lv_entry ([.ref (ad 0), .int (iI p1), .int (iI p2), .int (iI p3), .int (iI p4)]) (n := 5) (Nat.le_of_ble_eq_true rfl)
  rw [lg_entry_eq]
  generalize (lg_sl ([.ref (ad 0), .int (iI p1), .int (iI p2), .int (iI p3), .int (iI p4)]) ++ List.replicate (5 - (lg_sl ([.ref (ad 0), .int (iI p1), .int (iI p2), .int (iI p3), .int (iI p4)])).length) Slot.unset).toArray = ls at hl ⊢
  have hl : lv_has ls 5 [(0, .ref (ad 0)), (1, .int (iI p1)), (2, .int (iI p2)), (3, .int (iI p3)), (4, .int (iI p4))] := hl
  generalize hQ : MQ below (va_Qi (fun (r : Int32) (u : (Nat → Int) × (Nat → Int → Int)) => ∃ z : Int, r = iI z ∧ (mI u.1 u.2) ∧ (∀ j, j ∉ ([2, 3, 4, 5, 7] : List Nat) → u.1 j = g j) ∧ (∀ j, j ∉ ([2] : List Nat) → u.2 j = a j) ∧ (0 ≤ z ∧ z ≤ 1) ∧ (z = 0 ∨ (rPn u.1 u.2 (u.1 7) ∧ mz u.1 u.2 (u.1 7) < mz g a (g 7 + 1)))) (fun u t => va_P (dC, dI) vwCl (mG ad ca u.1 u.2) t.heap ∧ va_K (dC, dI) vwCl (mT ca) t ∧ va_D A (mG ad ca u.1 u.2)) A) ([.ref (ad 0), .int (iI p1), .int (iI p2), .int (iI p3), .int (iI p4)] : List Value).toArray s 0 0 A = Q
  suffices ST : ∀ (H : Heap) (locs : List Loc), va_P (dC, dI) vwCl (mG ad ca g a) H → va_S A s.heap H locs → W p l e ({ frames := 6, cells := 0, slots := 0, locals := 133 }) s m ([.ref (ad 0), .int (iI p1), .int (iI p2), .int (iI p3), .int (iI p4)] : List Value).toArray below meth c H locs 0 0 Q (F0 m 0 ls []) from ST _ _ hP hS
  clear hP hS
  intro H locs hP hS
  obtain ⟨bb1, bb2, bb3, bb4, bb5, bb6⟩ := bd_1 hrP1
  have bb7 := tkk_b (g 3)
  have b7_0 : 0 ≤ g 7 ∧ g 7 ≤ 1200 := hI.1 7
  have b1_0 : 0 ≤ g 1 ∧ g 1 ≤ 600 := hI.1 1
  have b2_0 : 0 ≤ g 2 ∧ g 2 ≤ 600 := hI.1 2
  refine lv_aload_n hx hb dX13_moreWords_0 rfl (lv_at hl 0 rfl) ?_
  refine lv_iload_n hx hb dX13_moreWords_1 rfl (lv_at hl 1 rfl) ?_
  refine jc_i (va_runV (As := [.int (iI p1)]) (rest := []) ⟨hx, hb, hml, hown, hts⟩ (sX13_isWord l dC dI _ ad ca g a p1 hI (by omega)) (cwV 1 hts (jgoodV m_236 m_396 m_397 m_503 m_165) rfl rfl rfl (by decide +kernel) ⟨(Nat.le_of_ble_eq_true rfl), (Nat.le_of_ble_eq_true rfl)⟩) ⟨jw_blind, va_recv hK hP (ci := 13) (q0 := 0) rfl rfl, fun U hU hW => ⟨rfl, jw_of hU hW hP hK hD⟩⟩ rfl rfl hl.1 rfl (lv_room (Nat.le_of_ble_eq_true rfl)) dX13_moreWords_2 ⟨(Nat.le_of_ble_eq_true rfl), (Nat.le_of_ble_eq_true rfl)⟩) hP hS hA (fun r_1 H locs w_2 hP hS => ?_)
  obtain ⟨z_3, rfl, h_4, h_5⟩ := w_2
  have b_6 : 0 ≤ g 3 ∧ g 3 ≤ 4 := hI.1 3
  refine xr_if_ne (tgt := 10) hx hb dX13_moreWords_5 (by decide) (by omega) (fun h_7 => ?_) (fun h_7 => ?_)
  · refine lv_aload_n hx hb dX13_moreWords_10 rfl (lv_at hl 0 rfl) ?_
    refine jcg_v (va_runV (As := []) (rest := []) ⟨hx, hb, hml, hown, hts⟩ (sX13_next l dC dI _ ad ca sK sV g a  hI (by omega)) (cwV 0 hts (jgoodV m_224 m_433 m_434 m_503 m_184) rfl rfl rfl (by decide +kernel) ⟨(Nat.le_of_ble_eq_true rfl), (Nat.le_of_ble_eq_true rfl)⟩) ⟨mP_blind, va_recv hK hP (ci := 13) (q0 := 0) rfl rfl, fun U hU hW => ⟨rfl, mP_of hU hW hP hK hD hXs hS (fun _ h => h) hA⟩⟩ rfl rfl hl.1 rfl (lv_room (Nat.le_of_ble_eq_true rfl)) dX13_moreWords_11 ⟨(Nat.le_of_ble_eq_true rfl), (Nat.le_of_ble_eq_true rfl)⟩) hD hS hA (fun u_17 H locs w_9 hP hK hD hS => ?_)
    obtain ⟨g_15, a_16⟩ := u_17
    obtain ⟨hI, hfr_18, hfr_19, h_11, h_12, h_13, h_14⟩ := w_9
    have hP : va_P (dC, dI) vwCl (mG ad ca g_15 a_16) H := hP
    have hD : va_D A (mG ad ca g_15 a_16) := hD
    have hfA : ∀ j, j ∉ ([2, 3, 4, 5, 7] : List Nat) → g_15 j = g j := fun j h => (hfr_18 j (fun q => h (by first | exact q | (simp only [List.mem_cons, List.not_mem_nil, or_false] at q ⊢ <;> omega)))).trans (hfA j h)
    have b_21 : g_15 1 = g 1 := hfA 1 (by decide)
    have b_22 : g_15 8 = g 8 := hfA 8 (by decide)
    have b_23 : g_15 9 = g 9 := hfA 9 (by decide)
    have b_24 : g_15 12 = g 12 := hfA 12 (by decide)
    have b_25 : g_15 15 = g 15 := hfA 15 (by decide)
    have b_26 := hfr_18 7 (by decide)
    have haA : ∀ j, j ∉ ([2] : List Nat) → a_16 j = a j := fun j h => (hfr_19 j (fun q => h (by first | exact q | (simp only [List.mem_cons, List.not_mem_nil, or_false] at q ⊢ <;> omega)))).trans (haA j h)
    have h_11 : g 2 ≤ g_15 2 := h_11
    have h_12 : g_15 2 ≤ g 1 := h_12
    have h_13 : g_15 3 = 0 ∨ g 2 + 1 ≤ g_15 2 := h_13
    have h_14 : g_15 4 ≤ g_15 2 := h_14
    have b_27 : g_15 1 = g 1 := hfr_18 1 (by decide)
    have b_28 : g_15 7 = g 7 := hfr_18 7 (by decide)
    have b_29 : g_15 8 = g 8 := hfr_18 8 (by decide)
    have b_30 : g_15 9 = g 9 := hfr_18 9 (by decide)
    have b_31 : g_15 12 = g 12 := hfr_18 12 (by decide)
    have b_32 : g_15 15 = g 15 := hfr_18 15 (by decide)
    have t_33 : a_16 2 = a 2 := (hfr_19 2 (by decide)).trans rfl
    have t_34 : a_16 3 = a 3 := (hfr_19 3 (by decide)).trans rfl
    have t_35 : a_16 4 = a 4 := (hfr_19 4 (by decide)).trans rfl
    have t_36 : a_16 5 = a 5 := (hfr_19 5 (by decide)).trans rfl
    have t_37 : a_16 6 = a 6 := (hfr_19 6 (by decide)).trans rfl
    have t_38 : a_16 7 = a 7 := (hfr_19 7 (by decide)).trans rfl
    have t_39 : a_16 8 = a 8 := (hfr_19 8 (by decide)).trans rfl
    have b_40 : 0 ≤ g_15 1 ∧ g_15 1 ≤ 600 := hI.1 1
    have b_41 : 0 ≤ g_15 2 ∧ g_15 2 ≤ 600 := hI.1 2
    refine lv_aload_n hx hb dX13_moreWords_14 rfl (lv_at hl 0 rfl) ?_
    refine lv_iload_n hx hb dX13_moreWords_15 rfl (lv_at hl 3 rfl) ?_
    refine jcg_v (va_runV (As := [.int (iI p3)]) (rest := []) ⟨hx, hb, hml, hown, hts⟩ (sX13_push l dC dI _ ad ca g_15 a_16 p3 hI (by omega) (by omega)) (cwV 1 hts (jgoodV m_225 m_452 m_453 m_503 m_194) rfl rfl rfl (by decide +kernel) ⟨(Nat.le_of_ble_eq_true rfl), (Nat.le_of_ble_eq_true rfl)⟩) ⟨jw_blind, va_recv hK hP (ci := 13) (q0 := 0) rfl rfl, fun U hU hW => ⟨rfl, jw_of hU hW hP hK hD⟩⟩ rfl rfl hl.1 rfl (lv_room (Nat.le_of_ble_eq_true rfl)) dX13_moreWords_16 ⟨(Nat.le_of_ble_eq_true rfl), (Nat.le_of_ble_eq_true rfl)⟩) hD hS hA (fun u_49 H locs w_43 hP hK hD hS => ?_)
    obtain ⟨g_47, a_48⟩ := u_49
    obtain ⟨hI, hfr_50, hfr_51, h_45, h_46⟩ := w_43
    have hP : va_P (dC, dI) vwCl (mG ad ca g_47 a_48) H := hP
    have hD : va_D A (mG ad ca g_47 a_48) := hD
    have hfA : ∀ j, j ∉ ([2, 3, 4, 5, 7] : List Nat) → g_47 j = g j := fun j h => (hfr_50 j (fun q => h (by first | exact q | (simp only [List.mem_cons, List.not_mem_nil, or_false] at q ⊢ <;> omega)))).trans (hfA j h)
    have b_53 : g_47 1 = g 1 := hfA 1 (by decide)
    have b_54 : g_47 8 = g 8 := hfA 8 (by decide)
    have b_55 : g_47 9 = g 9 := hfA 9 (by decide)
    have b_56 : g_47 12 = g 12 := hfA 12 (by decide)
    have b_57 : g_47 15 = g 15 := hfA 15 (by decide)
    have b_58 := hfr_50 2 (by decide)
    have b_59 := hfr_50 3 (by decide)
    have haA : ∀ j, j ∉ ([2] : List Nat) → a_48 j = a j := fun j h => (hfr_51 j (fun q => h (by first | exact q | (simp only [List.mem_cons, List.not_mem_nil, or_false] at q ⊢ <;> omega)))).trans (haA j h)
    have h_45 : g_47 7 = g_15 7 + 1 := h_45
    have h_46 : a_48 2 = up (a_16 2) (g_15 7) p3 := h_46
    have b_60 : g_47 1 = g_15 1 := hfr_50 1 (by decide)
    have b_61 : g_47 2 = g_15 2 := hfr_50 2 (by decide)
    have b_62 : g_47 3 = g_15 3 := hfr_50 3 (by decide)
    have b_63 : g_47 4 = g_15 4 := hfr_50 4 (by decide)
    have b_64 : g_47 8 = g_15 8 := hfr_50 8 (by decide)
    have b_65 : g_47 9 = g_15 9 := hfr_50 9 (by decide)
    have b_66 : g_47 12 = g_15 12 := hfr_50 12 (by decide)
    have b_67 : g_47 15 = g_15 15 := hfr_50 15 (by decide)
    have t_68 : a_48 2 = up (a 2) (g 7) p3 := h_46.trans (up_c t_33 (by omega) (by omega))
    have t_69 : a_48 3 = a 3 := (hfr_51 3 (by decide)).trans t_34
    have t_70 : a_48 4 = a 4 := (hfr_51 4 (by decide)).trans t_35
    have t_71 : a_48 5 = a 5 := (hfr_51 5 (by decide)).trans t_36
    have t_72 : a_48 6 = a 6 := (hfr_51 6 (by decide)).trans t_37
    have t_73 : a_48 7 = a 7 := (hfr_51 7 (by decide)).trans t_38
    have t_74 : a_48 8 = a 8 := (hfr_51 8 (by decide)).trans t_39
    have b_75 : 0 ≤ g_47 7 ∧ g_47 7 ≤ 1200 := hI.1 7
    refine lv_aload_n hx hb dX13_moreWords_19 rfl (lv_at hl 0 rfl) ?_
    refine lv_sipush (v := iI 1000) hx hb dX13_moreWords_20 rfl ?_
    refine lv_iload_n hx hb dX13_moreWords_23 rfl (lv_at hl 2 rfl) ?_
    refine xr_add hx hb dX13_moreWords_24 ?_
    refine xr_kept (fun z_76 h_77 h_78 => ?_)
    refine jcg_v (va_runV (As := [.int (iI z_76)]) (rest := []) ⟨hx, hb, hml, hown, hts⟩ (sX13_push l dC dI _ ad ca g_47 a_48 z_76 hI (by omega) (by omega)) (cwV 1 hts (jgoodV m_225 m_452 m_453 m_503 m_194) rfl rfl rfl (by decide +kernel) ⟨(Nat.le_of_ble_eq_true rfl), (Nat.le_of_ble_eq_true rfl)⟩) ⟨jw_blind, va_recv hK hP (ci := 13) (q0 := 0) rfl rfl, fun U hU hW => ⟨rfl, jw_of hU hW hP hK hD⟩⟩ rfl rfl hl.1 rfl (lv_room (Nat.le_of_ble_eq_true rfl)) dX13_moreWords_25 ⟨(Nat.le_of_ble_eq_true rfl), (Nat.le_of_ble_eq_true rfl)⟩) hD hS hA (fun u_86 H locs w_80 hP hK hD hS => ?_)
    obtain ⟨g_84, a_85⟩ := u_86
    obtain ⟨hI, hfr_87, hfr_88, h_82, h_83⟩ := w_80
    have hP : va_P (dC, dI) vwCl (mG ad ca g_84 a_85) H := hP
    have hD : va_D A (mG ad ca g_84 a_85) := hD
    have hfA : ∀ j, j ∉ ([2, 3, 4, 5, 7] : List Nat) → g_84 j = g j := fun j h => (hfr_87 j (fun q => h (by first | exact q | (simp only [List.mem_cons, List.not_mem_nil, or_false] at q ⊢ <;> omega)))).trans (hfA j h)
    have b_90 : g_84 1 = g 1 := hfA 1 (by decide)
    have b_91 : g_84 8 = g 8 := hfA 8 (by decide)
    have b_92 : g_84 9 = g 9 := hfA 9 (by decide)
    have b_93 : g_84 12 = g 12 := hfA 12 (by decide)
    have b_94 : g_84 15 = g 15 := hfA 15 (by decide)
    have b_95 := hfr_87 2 (by decide)
    have b_96 := hfr_87 3 (by decide)
    have haA : ∀ j, j ∉ ([2] : List Nat) → a_85 j = a j := fun j h => (hfr_88 j (fun q => h (by first | exact q | (simp only [List.mem_cons, List.not_mem_nil, or_false] at q ⊢ <;> omega)))).trans (haA j h)
    have h_82 : g_84 7 = g_47 7 + 1 := h_82
    have h_83 : a_85 2 = up (a_48 2) (g_47 7) z_76 := h_83
    have b_97 : g_84 1 = g_47 1 := hfr_87 1 (by decide)
    have b_98 : g_84 2 = g_47 2 := hfr_87 2 (by decide)
    have b_99 : g_84 3 = g_47 3 := hfr_87 3 (by decide)
    have b_100 : g_84 4 = g_47 4 := hfr_87 4 (by decide)
    have b_101 : g_84 8 = g_47 8 := hfr_87 8 (by decide)
    have b_102 : g_84 9 = g_47 9 := hfr_87 9 (by decide)
    have b_103 : g_84 12 = g_47 12 := hfr_87 12 (by decide)
    have b_104 : g_84 15 = g_47 15 := hfr_87 15 (by decide)
    have t_105 : a_85 2 = up (up (a 2) (g 7) p3) ((g 7 + 1)) z_76 := h_83.trans (up_c t_68 (by omega) (by omega))
    have t_106 : a_85 3 = a 3 := (hfr_88 3 (by decide)).trans t_69
    have t_107 : a_85 4 = a 4 := (hfr_88 4 (by decide)).trans t_70
    have t_108 : a_85 5 = a 5 := (hfr_88 5 (by decide)).trans t_71
    have t_109 : a_85 6 = a 6 := (hfr_88 6 (by decide)).trans t_72
    have t_110 : a_85 7 = a 7 := (hfr_88 7 (by decide)).trans t_73
    have t_111 : a_85 8 = a 8 := (hfr_88 8 (by decide)).trans t_74
    have b_112 : 0 ≤ g_84 7 ∧ g_84 7 ≤ 1200 := hI.1 7
    refine lv_aload_n hx hb dX13_moreWords_28 rfl (lv_at hl 0 rfl) ?_
    refine lv_iload hx hb dX13_moreWords_29 (lv_at hl 4 rfl) ?_
    refine jcg_v (va_runV (As := [.int (iI p4)]) (rest := []) ⟨hx, hb, hml, hown, hts⟩ (sX13_push l dC dI _ ad ca g_84 a_85 p4 hI (by omega) (by omega)) (cwV 1 hts (jgoodV m_225 m_452 m_453 m_503 m_194) rfl rfl rfl (by decide +kernel) ⟨(Nat.le_of_ble_eq_true rfl), (Nat.le_of_ble_eq_true rfl)⟩) ⟨jw_blind, va_recv hK hP (ci := 13) (q0 := 0) rfl rfl, fun U hU hW => ⟨rfl, jw_of hU hW hP hK hD⟩⟩ rfl rfl hl.1 rfl (lv_room (Nat.le_of_ble_eq_true rfl)) dX13_moreWords_31 ⟨(Nat.le_of_ble_eq_true rfl), (Nat.le_of_ble_eq_true rfl)⟩) hD hS hA (fun u_120 H locs w_114 hP hK hD hS => ?_)
    obtain ⟨g_118, a_119⟩ := u_120
    obtain ⟨hI, hfr_121, hfr_122, h_116, h_117⟩ := w_114
    have hP : va_P (dC, dI) vwCl (mG ad ca g_118 a_119) H := hP
    have hD : va_D A (mG ad ca g_118 a_119) := hD
    have hfA : ∀ j, j ∉ ([2, 3, 4, 5, 7] : List Nat) → g_118 j = g j := fun j h => (hfr_121 j (fun q => h (by first | exact q | (simp only [List.mem_cons, List.not_mem_nil, or_false] at q ⊢ <;> omega)))).trans (hfA j h)
    have b_124 : g_118 1 = g 1 := hfA 1 (by decide)
    have b_125 : g_118 8 = g 8 := hfA 8 (by decide)
    have b_126 : g_118 9 = g 9 := hfA 9 (by decide)
    have b_127 : g_118 12 = g 12 := hfA 12 (by decide)
    have b_128 : g_118 15 = g 15 := hfA 15 (by decide)
    have b_129 := hfr_121 2 (by decide)
    have b_130 := hfr_121 3 (by decide)
    have haA : ∀ j, j ∉ ([2] : List Nat) → a_119 j = a j := fun j h => (hfr_122 j (fun q => h (by first | exact q | (simp only [List.mem_cons, List.not_mem_nil, or_false] at q ⊢ <;> omega)))).trans (haA j h)
    have h_116 : g_118 7 = g_84 7 + 1 := h_116
    have h_117 : a_119 2 = up (a_85 2) (g_84 7) p4 := h_117
    have b_131 : g_118 1 = g_84 1 := hfr_121 1 (by decide)
    have b_132 : g_118 2 = g_84 2 := hfr_121 2 (by decide)
    have b_133 : g_118 3 = g_84 3 := hfr_121 3 (by decide)
    have b_134 : g_118 4 = g_84 4 := hfr_121 4 (by decide)
    have b_135 : g_118 8 = g_84 8 := hfr_121 8 (by decide)
    have b_136 : g_118 9 = g_84 9 := hfr_121 9 (by decide)
    have b_137 : g_118 12 = g_84 12 := hfr_121 12 (by decide)
    have b_138 : g_118 15 = g_84 15 := hfr_121 15 (by decide)
    have t_139 : a_119 2 = up (up (up (a 2) (g 7) p3) ((g 7 + 1)) z_76) (((g 7 + 1) + 1)) p4 := h_117.trans (up_c t_105 (by omega) (by omega))
    have t_140 : a_119 3 = a 3 := (hfr_122 3 (by decide)).trans t_106
    have t_141 : a_119 4 = a 4 := (hfr_122 4 (by decide)).trans t_107
    have t_142 : a_119 5 = a 5 := (hfr_122 5 (by decide)).trans t_108
    have t_143 : a_119 6 = a 6 := (hfr_122 6 (by decide)).trans t_109
    have t_144 : a_119 7 = a 7 := (hfr_122 7 (by decide)).trans t_110
    have t_145 : a_119 8 = a 8 := (hfr_122 8 (by decide)).trans t_111
    have b_146 : 0 ≤ g_118 7 ∧ g_118 7 ≤ 1200 := hI.1 7
    refine lv_iconst (v := iI 1) hx hb dX13_moreWords_34 rfl ?_
    rw [← hQ]
    exact W.zret (v := iI 1) (ty := .boolean) hx hb hr (nb_bool (by omega) (by omega)) (fun t ht hW => ⟨⟨iI 1, (g_118, a_119), rfl, ⟨1, rfl, hI, hfA, haA, by omega, by show 1 = 0 ∨ (rPn g_118 a_119 (g_118 7) ∧ mz g_118 a_119 (g_118 7) < mz g a (g 7 + 1)); first | exact Or.inl rfl | (rcases k1 with ⟨-, -, -, -, q⟩ | ⟨-, -, -, -, q⟩; exact Or.inr (st_7n hrP1 (by omega) q ⟨by omega, by omega, by omega, by omega, t_140, t_141, t_142, t_143, t_144, t_145⟩ (by omega) (by omega) (by omega) (by omega) (by omega) t_139); exact Or.inr (st_9n hrP1 (by omega) q ⟨by omega, by omega, by omega, by omega, t_140, t_141, t_142, t_143, t_144, t_145⟩ (by omega) (by omega) (by omega) (by omega) (by omega) t_139)) | (rcases k1 with ⟨-, q2, q3, q4, q⟩ | ⟨-, q2, q3, q4, q⟩; exact Or.inr (st_7m hrP1 (by omega) q ⟨by omega, by omega, by omega, by omega, t_140, t_141, t_142, t_143, t_144, t_145⟩ (by omega) (by omega) (by omega) (by omega) ⟨by omega, by omega, by omega⟩ ((t_139).trans (up_c (up_c (up_c rfl rfl q3) rfl (by omega)) (by omega) q4))); exact Or.inr (st_9m hrP1 (by omega) q ⟨by omega, by omega, by omega, by omega, t_140, t_141, t_142, t_143, t_144, t_145⟩ (by omega) (by omega) (by omega) (by omega) ⟨by omega, by omega, by omega⟩ ((t_139).trans (up_c (up_c (up_c rfl rfl q3) rfl (by omega)) (by omega) q4))))⟩, by rw [ht]; exact hP, va_K.moved hW.alike hK, hD⟩, hS.F ht⟩) hS.2.2 dX13_moreWords_35
  · refine lv_iconst (v := iI 1) hx hb dX13_moreWords_8 rfl ?_
    rw [← hQ]
    exact W.zret (v := iI 1) (ty := .boolean) hx hb hr (nb_bool (by omega) (by omega)) (fun t ht hW => ⟨⟨iI 1, (g, a), rfl, ⟨1, rfl, hI, hfA, haA, by omega, by show 1 = 0 ∨ (rPn g a (g 7) ∧ mz g a (g 7) < mz g a (g 7 + 1)); first | exact Or.inl rfl | (rcases k1 with ⟨-, -, -, -, q⟩ | ⟨-, -, -, -, q⟩; exact Or.inr (st_7n hrP1 (by omega) q ⟨by omega, by omega, by omega, by omega, rfl, rfl, rfl, rfl, rfl, rfl⟩ (by omega) (by omega) (by omega) (by omega) (by omega) rfl); exact Or.inr (st_9n hrP1 (by omega) q ⟨by omega, by omega, by omega, by omega, rfl, rfl, rfl, rfl, rfl, rfl⟩ (by omega) (by omega) (by omega) (by omega) (by omega) rfl)) | (rcases k1 with ⟨-, q2, q3, q4, q⟩ | ⟨-, q2, q3, q4, q⟩; exact Or.inr (st_7m hrP1 (by omega) q ⟨by omega, by omega, by omega, by omega, rfl, rfl, rfl, rfl, rfl, rfl⟩ (by omega) (by omega) (by omega) (by omega) ⟨by omega, by omega, by omega⟩ ((rfl).trans (up_c (up_c (up_c rfl rfl q3) rfl (by omega)) (by omega) q4))); exact Or.inr (st_9m hrP1 (by omega) q ⟨by omega, by omega, by omega, by omega, rfl, rfl, rfl, rfl, rfl, rfl⟩ (by omega) (by omega) (by omega) (by omega) ⟨by omega, by omega, by omega⟩ ((rfl).trans (up_c (up_c (up_c rfl rfl q3) rfl (by omega)) (by omega) q4))))⟩, by rw [ht]; exact hP, va_K.moved hW.alike hK, hD⟩, hS.F ht⟩) hS.2.2 dX13_moreWords_9
set_option maxHeartbeats 2000000 in
set_option maxRecDepth 100000 in
theorem sX13_factor (l : Launch) (dC : Nat → ClassId) (dI : Nat → Nat → Nat) (sz : Nat) (ad : Nat → Nat) (ca : Nat → ClassId) (sK sV : Nat → Nat) (g : Nat → Int) (a : Nat → Int → Int) (hI : mI g a) (k1 : a 2 (g 7) = 5) (hrP1 : rP1 g a) : Met l yX13_factor (jk yX13_factor cX13_factor 1 (some .boolean)) ({ frames := 7, cells := 0, slots := 0, locals := 153 }) (va_Pc [.ref (ad 0)] (mP (dC, dI) (mG ad ca g a) (mT ca) sK sV sz)) (va_Qi (fun (r : Int32) (u : (Nat → Int) × (Nat → Int → Int)) => ∃ z : Int, r = iI z ∧ (mI u.1 u.2) ∧ (∀ j, j ∉ ([2, 3, 4, 5, 7, 8, 12] : List Nat) → u.1 j = g j) ∧ (∀ j, j ∉ ([2, 3, 4] : List Nat) → u.2 j = a j) ∧ (0 ≤ z ∧ z ≤ 1) ∧ (z = 0 ∨ (rPn u.1 u.2 (u.1 7) ∧ mz u.1 u.2 (u.1 7) < mz g a (g 7 + 1)))) (fun u t => va_P (dC, dI) vwCl (mG ad ca u.1 u.2) t.heap ∧ va_K (dC, dI) vwCl (mT ca) t ∧ va_D (va_A (mG ad ca g a) sz) (mG ad ca u.1 u.2)) (va_A (mG ad ca g a) sz)) 0 0 (va_A (mG ad ca g a) sz) := by
  refine Met.ofW (cc := cX13_factor) (maxL := 1) (ret := (some .boolean)) (by decide) rfl ?_
  intro p e s m args below meth c s₁ B hml hv
  obtain ⟨rfl, ⟨hsz, hP, hK, hD0⟩, hX0⟩ := hv
  have hx := B.exec
  have hb := B.bytes
  have hr := B.returns
  have hts := atoms_spec (ws := (jk yX13_factor cX13_factor 1 (some .boolean))) B.pre
  have hj : ∀ w ∈ jw, w.before ([.ref (ad 0)] : List Value).toArray s = true := fun w h => hts w (jm h)
  have hown : s.vm.findClass RX13 = some m.cls := findClass_of_methodNamed B.named
  subst hsz
  have hD := hD0.self (sz := s.heap.size)
  have hXs := hX0
  generalize hAe : (va_A (mG ad ca g a) s.heap.size) = A at hD hXs ⊢
  have hA : ∀ q : Nat, s.heap.size ≤ q → A q := fun q h => by rw [← hAe]; exact Or.inr h
  have hS : va_S A s.heap s.heap [] := va_S.rf
  have hP : va_P (dC, dI) vwCl (mG ad ca g a) s.heap := hP
  have hfA : ∀ j, j ∉ ([2, 3, 4, 5, 7, 8, 12] : List Nat) → g j = g j := fun _ _ => rfl
  have haA : ∀ j, j ∉ ([2, 3, 4] : List Nat) → a j = a j := fun _ _ => rfl
  have hl := lv_entry ([.ref (ad 0)]) (n := 1) (Nat.le_of_ble_eq_true rfl)
  rw [lg_entry_eq]
  generalize (lg_sl ([.ref (ad 0)]) ++ List.replicate (1 - (lg_sl ([.ref (ad 0)])).length) Slot.unset).toArray = ls at hl ⊢
  have hl : lv_has ls 1 [(0, .ref (ad 0))] := hl
  generalize hQ : MQ below (va_Qi (fun (r : Int32) (u : (Nat → Int) × (Nat → Int → Int)) => ∃ z : Int, r = iI z ∧ (mI u.1 u.2) ∧ (∀ j, j ∉ ([2, 3, 4, 5, 7, 8, 12] : List Nat) → u.1 j = g j) ∧ (∀ j, j ∉ ([2, 3, 4] : List Nat) → u.2 j = a j) ∧ (0 ≤ z ∧ z ≤ 1) ∧ (z = 0 ∨ (rPn u.1 u.2 (u.1 7) ∧ mz u.1 u.2 (u.1 7) < mz g a (g 7 + 1)))) (fun u t => va_P (dC, dI) vwCl (mG ad ca u.1 u.2) t.heap ∧ va_K (dC, dI) vwCl (mT ca) t ∧ va_D A (mG ad ca u.1 u.2)) A) ([.ref (ad 0)] : List Value).toArray s 0 0 A = Q
  suffices ST : ∀ (H : Heap) (locs : List Loc), va_P (dC, dI) vwCl (mG ad ca g a) H → va_S A s.heap H locs → W p l e ({ frames := 7, cells := 0, slots := 0, locals := 153 }) s m ([.ref (ad 0)] : List Value).toArray below meth c H locs 0 0 Q (F0 m 0 ls []) from ST _ _ hP hS
  clear hP hS
  intro H locs hP hS
  obtain ⟨bb1, bb2, bb3, bb4, bb5, bb6⟩ := bd_1 hrP1
  have bb7 := tkk_b (g 3)
  have b7_0 : 0 ≤ g 7 ∧ g 7 ≤ 1200 := hI.1 7
  have b1_0 : 0 ≤ g 1 ∧ g 1 ≤ 600 := hI.1 1
  have b2_0 : 0 ≤ g 2 ∧ g 2 ≤ 600 := hI.1 2
  refine lv_aload_n hx hb dX13_factor_0 rfl (lv_at hl 0 rfl) ?_
  refine gf_token hx hb hj hown hK hP hI dX13_factor_1 (fun h_1 => ?_)
  refine lv_iconst (v := iI 1) hx hb dX13_factor_4 rfl ?_
  refine xr_icmp_ne (tgt := 34) hx hb dX13_factor_5 (by decide) (by omega) (by omega) (fun h_2 => ?_) (fun h_2 => ?_)
  · refine lv_aload_n hx hb dX13_factor_34 rfl (lv_at hl 0 rfl) ?_
    refine gf_token hx hb hj hown hK hP hI dX13_factor_35 (fun h_3 => ?_)
    refine lv_iconst (v := iI 2) hx hb dX13_factor_38 rfl ?_
    have J73 : ∀ (H : Heap) (locs : List Loc) (ls : Array Slot), va_P (dC, dI) vwCl (mG ad ca g a) H → va_D A (mG ad ca g a) → va_S A s.heap H locs → lv_has ls 1 [(0, .ref (ad 0))] → W p l e ({ frames := 7, cells := 0, slots := 0, locals := 153 }) s m ([.ref (ad 0)] : List Value).toArray below meth c H locs 0 0 Q (F0 m 73 ls []) := by
      intro H locs ls hP hD hS hl
      refine lv_aload_n hx hb dX13_factor_73 rfl (lv_at hl 0 rfl) ?_
      refine lv_bipush (v := iI 40) hx hb dX13_factor_74 rfl ?_
      refine jc_i (va_runV (As := [.int (iI 40)]) (rest := []) ⟨hx, hb, hml, hown, hts⟩ (sX13_isSign l dC dI _ ad ca g a 40 hI (by omega)) (cwV 1 hts (jgoodV m_227 m_389 m_390 m_503 m_161) rfl rfl rfl (by decide +kernel) ⟨(Nat.le_of_ble_eq_true rfl), (Nat.le_of_ble_eq_true rfl)⟩) ⟨jw_blind, va_recv hK hP (ci := 13) (q0 := 0) rfl rfl, fun U hU hW => ⟨rfl, jw_of hU hW hP hK hD⟩⟩ rfl rfl hl.1 rfl (lv_room (Nat.le_of_ble_eq_true rfl)) dX13_factor_76 ⟨(Nat.le_of_ble_eq_true rfl), (Nat.le_of_ble_eq_true rfl)⟩) hP hS hA (fun r_4 H locs w_5 hP hS => ?_)
      obtain ⟨z_6, rfl, h_7, h_8⟩ := w_5
      have b_9 : 0 ≤ g 3 ∧ g 3 ≤ 4 := hI.1 3
      refine xr_if_eq (tgt := 89) hx hb dX13_factor_79 (by decide) (by omega) (fun h_10 => ?_) (fun h_10 => ?_)
      · refine lv_iconst (v := iI 0) hx hb dX13_factor_89 rfl ?_
        rw [← hQ]
        exact W.zret (v := iI 0) (ty := .boolean) hx hb hr (nb_bool (by omega) (by omega)) (fun t ht hW => ⟨⟨iI 0, (g, a), rfl, ⟨0, rfl, hI, hfA, haA, by omega, by show 0 = 0 ∨ (rPn g a (g 7) ∧ mz g a (g 7) < mz g a (g 7 + 1)); first | exact Or.inl rfl | exact Or.inr (st_5e hrP1 (by omega) k1 (Or.inl rfl) (by omega) (by omega) (by omega) (by omega) rfl rfl rfl rfl rfl rfl (by omega) (by omega) (by omega) ⟨by omega, by omega, by omega⟩ rfl) | exact Or.inr (st_5e hrP1 (by omega) k1 (Or.inr ⟨rfl, by omega, by omega⟩) (by omega) (by omega) (by omega) (by omega) rfl rfl rfl rfl rfl rfl (by omega) (by omega) (by omega) ⟨by omega, by omega, by omega⟩ rfl) | exact Or.inr (st_5p hrP1 (by omega) k1 ⟨by omega, by omega, by omega, by omega, rfl, rfl, rfl, rfl, rfl, rfl⟩ (by omega) (by omega) (by omega) (by omega) ⟨by omega, by omega, by omega⟩ ((rfl).trans (up_c rfl (by omega) rfl)))⟩, by rw [ht]; exact hP, va_K.moved hW.alike hK, hD⟩, hS.F ht⟩) hS.2.2 dX13_factor_90
      · refine lv_aload_n hx hb dX13_factor_82 rfl (lv_at hl 0 rfl) ?_
        refine jcg_i (va_runV (As := []) (rest := []) ⟨hx, hb, hml, hown, hts⟩ (sX13_deeper l dC dI _ ad ca g a  hI (by omega) (by omega) (by omega)) (cwV 0 hts (jgoodV m_240 m_318 m_319 m_503 m_124) rfl rfl rfl (by decide +kernel) ⟨(Nat.le_of_ble_eq_true rfl), (Nat.le_of_ble_eq_true rfl)⟩) ⟨jw_blind, va_recv hK hP (ci := 13) (q0 := 0) rfl rfl, fun U hU hW => ⟨rfl, jw_of hU hW hP hK hD⟩⟩ rfl rfl hl.1 rfl (lv_room (Nat.le_of_ble_eq_true rfl)) dX13_factor_83 ⟨(Nat.le_of_ble_eq_true rfl), (Nat.le_of_ble_eq_true rfl)⟩) hD hS hA (fun r_11 u_19 H locs w_12 hP hK hD hS => ?_)
        obtain ⟨g_17, a_18⟩ := u_19
        obtain ⟨z_13, rfl, hI, hfr_20, hfr_21, h_14, h_15, h_16⟩ := w_12
        have hP : va_P (dC, dI) vwCl (mG ad ca g_17 a_18) H := hP
        have hD : va_D A (mG ad ca g_17 a_18) := hD
        have hfA : ∀ j, j ∉ ([2, 3, 4, 5, 7, 8, 12] : List Nat) → g_17 j = g j := fun j h => (hfr_20 j (fun q => h (by first | exact q | (simp only [List.mem_cons, List.not_mem_nil, or_false] at q ⊢ <;> omega)))).trans (hfA j h)
        have b_23 : g_17 1 = g 1 := hfA 1 (by decide)
        have b_24 : g_17 9 = g 9 := hfA 9 (by decide)
        have b_25 : g_17 15 = g 15 := hfA 15 (by decide)
        have b_26 := hfr_20 2 (by decide)
        have b_27 := hfr_20 3 (by decide)
        have b_28 := hfr_20 5 (by decide)
        have b_29 := hfr_20 12 (by decide)
        have haA : ∀ j, j ∉ ([2, 3, 4] : List Nat) → a_18 j = a j := fun j h => (hfr_21 j (fun q => h (by first | exact q | (simp only [List.mem_cons, List.not_mem_nil, or_false] at q ⊢ <;> omega)))).trans (haA j h)
        have h_15 : (z_13 = 0 ∧ g_17 7 = g 7 ∧ g_17 8 = g 8) ∨ (z_13 = 1 ∧ g 8 ≠ 8 ∧ g_17 7 = g 7 + 1 ∧ g_17 8 = g 8 + 1) := h_15
        have h_16 : z_13 = 0 ∨ a_18 2 = up (a 2) (g 7) 12 := h_16
        have b_30 : g_17 1 = g 1 := hfr_20 1 (by decide)
        have b_31 : g_17 2 = g 2 := hfr_20 2 (by decide)
        have b_32 : g_17 3 = g 3 := hfr_20 3 (by decide)
        have b_33 : g_17 4 = g 4 := hfr_20 4 (by decide)
        have b_34 : g_17 9 = g 9 := hfr_20 9 (by decide)
        have b_35 : g_17 12 = g 12 := hfr_20 12 (by decide)
        have b_36 : g_17 15 = g 15 := hfr_20 15 (by decide)
        have t_37 : a_18 3 = a 3 := (hfr_21 3 (by decide)).trans rfl
        have t_38 : a_18 4 = a 4 := (hfr_21 4 (by decide)).trans rfl
        have t_39 : a_18 5 = a 5 := (hfr_21 5 (by decide)).trans rfl
        have t_40 : a_18 6 = a 6 := (hfr_21 6 (by decide)).trans rfl
        have t_41 : a_18 7 = a 7 := (hfr_21 7 (by decide)).trans rfl
        have t_42 : a_18 8 = a 8 := (hfr_21 8 (by decide)).trans rfl
        have b_43 : 0 ≤ g_17 7 ∧ g_17 7 ≤ 1200 := hI.1 7
        refine xr_if_ne (tgt := 91) hx hb dX13_factor_86 (by decide) (by omega) (fun h_44 => ?_) (fun h_44 => ?_)
        · have t_45 : a_18 2 = up (a 2) (g 7) 12 := ((h_16).resolve_left (by omega)).trans (up_c rfl (by omega) (by omega))
          refine lv_aload_n hx hb dX13_factor_91 rfl (lv_at hl 0 rfl) ?_
          refine lv_sipush (v := iI 141) hx hb dX13_factor_92 rfl ?_
          refine jcg_v (va_runV (As := [.int (iI 141)]) (rest := []) ⟨hx, hb, hml, hown, hts⟩ (sX13_push l dC dI _ ad ca g_17 a_18 141 hI (by omega) (by omega)) (cwV 1 hts (jgoodV m_225 m_452 m_453 m_503 m_194) rfl rfl rfl (by decide +kernel) ⟨(Nat.le_of_ble_eq_true rfl), (Nat.le_of_ble_eq_true rfl)⟩) ⟨jw_blind, va_recv hK hP (ci := 13) (q0 := 0) rfl rfl, fun U hU hW => ⟨rfl, jw_of hU hW hP hK hD⟩⟩ rfl rfl hl.1 rfl (lv_room (Nat.le_of_ble_eq_true rfl)) dX13_factor_95 ⟨(Nat.le_of_ble_eq_true rfl), (Nat.le_of_ble_eq_true rfl)⟩) hD hS hA (fun u_53 H locs w_47 hP hK hD hS => ?_)
          obtain ⟨g_51, a_52⟩ := u_53
          obtain ⟨hI, hfr_54, hfr_55, h_49, h_50⟩ := w_47
          have hP : va_P (dC, dI) vwCl (mG ad ca g_51 a_52) H := hP
          have hD : va_D A (mG ad ca g_51 a_52) := hD
          have hfA : ∀ j, j ∉ ([2, 3, 4, 5, 7, 8, 12] : List Nat) → g_51 j = g j := fun j h => (hfr_54 j (fun q => h (by first | exact q | (simp only [List.mem_cons, List.not_mem_nil, or_false] at q ⊢ <;> omega)))).trans (hfA j h)
          have b_57 : g_51 1 = g 1 := hfA 1 (by decide)
          have b_58 : g_51 9 = g 9 := hfA 9 (by decide)
          have b_59 : g_51 15 = g 15 := hfA 15 (by decide)
          have b_60 := hfr_54 2 (by decide)
          have b_61 := hfr_54 3 (by decide)
          have b_62 := hfr_54 5 (by decide)
          have b_63 := hfr_54 8 (by decide)
          have b_64 := hfr_54 12 (by decide)
          have haA : ∀ j, j ∉ ([2, 3, 4] : List Nat) → a_52 j = a j := fun j h => (hfr_55 j (fun q => h (by first | exact q | (simp only [List.mem_cons, List.not_mem_nil, or_false] at q ⊢ <;> omega)))).trans (haA j h)
          have h_49 : g_51 7 = g_17 7 + 1 := h_49
          have h_50 : a_52 2 = up (a_18 2) (g_17 7) 141 := h_50
          have b_65 : g_51 1 = g_17 1 := hfr_54 1 (by decide)
          have b_66 : g_51 2 = g_17 2 := hfr_54 2 (by decide)
          have b_67 : g_51 3 = g_17 3 := hfr_54 3 (by decide)
          have b_68 : g_51 4 = g_17 4 := hfr_54 4 (by decide)
          have b_69 : g_51 8 = g_17 8 := hfr_54 8 (by decide)
          have b_70 : g_51 9 = g_17 9 := hfr_54 9 (by decide)
          have b_71 : g_51 12 = g_17 12 := hfr_54 12 (by decide)
          have b_72 : g_51 15 = g_17 15 := hfr_54 15 (by decide)
          have t_73 : a_52 2 = up (up (a 2) (g 7) 12) ((g 7 + 1)) 141 := h_50.trans (up_c t_45 (by omega) (by omega))
          have t_74 : a_52 3 = a 3 := (hfr_55 3 (by decide)).trans t_37
          have t_75 : a_52 4 = a 4 := (hfr_55 4 (by decide)).trans t_38
          have t_76 : a_52 5 = a 5 := (hfr_55 5 (by decide)).trans t_39
          have t_77 : a_52 6 = a 6 := (hfr_55 6 (by decide)).trans t_40
          have t_78 : a_52 7 = a 7 := (hfr_55 7 (by decide)).trans t_41
          have t_79 : a_52 8 = a 8 := (hfr_55 8 (by decide)).trans t_42
          have b_80 : 0 ≤ g_51 7 ∧ g_51 7 ≤ 1200 := hI.1 7
          refine lv_aload_n hx hb dX13_factor_98 rfl (lv_at hl 0 rfl) ?_
          refine lv_iconst (v := iI 1) hx hb dX13_factor_99 rfl ?_
          refine jcg_v (va_runV (As := [.int (iI 1)]) (rest := []) ⟨hx, hb, hml, hown, hts⟩ (sX13_push l dC dI _ ad ca g_51 a_52 1 hI (by omega) (by omega)) (cwV 1 hts (jgoodV m_225 m_452 m_453 m_503 m_194) rfl rfl rfl (by decide +kernel) ⟨(Nat.le_of_ble_eq_true rfl), (Nat.le_of_ble_eq_true rfl)⟩) ⟨jw_blind, va_recv hK hP (ci := 13) (q0 := 0) rfl rfl, fun U hU hW => ⟨rfl, jw_of hU hW hP hK hD⟩⟩ rfl rfl hl.1 rfl (lv_room (Nat.le_of_ble_eq_true rfl)) dX13_factor_100 ⟨(Nat.le_of_ble_eq_true rfl), (Nat.le_of_ble_eq_true rfl)⟩) hD hS hA (fun u_88 H locs w_82 hP hK hD hS => ?_)
          obtain ⟨g_86, a_87⟩ := u_88
          obtain ⟨hI, hfr_89, hfr_90, h_84, h_85⟩ := w_82
          have hP : va_P (dC, dI) vwCl (mG ad ca g_86 a_87) H := hP
          have hD : va_D A (mG ad ca g_86 a_87) := hD
          have hfA : ∀ j, j ∉ ([2, 3, 4, 5, 7, 8, 12] : List Nat) → g_86 j = g j := fun j h => (hfr_89 j (fun q => h (by first | exact q | (simp only [List.mem_cons, List.not_mem_nil, or_false] at q ⊢ <;> omega)))).trans (hfA j h)
          have b_92 : g_86 1 = g 1 := hfA 1 (by decide)
          have b_93 : g_86 9 = g 9 := hfA 9 (by decide)
          have b_94 : g_86 15 = g 15 := hfA 15 (by decide)
          have b_95 := hfr_89 2 (by decide)
          have b_96 := hfr_89 3 (by decide)
          have b_97 := hfr_89 5 (by decide)
          have b_98 := hfr_89 8 (by decide)
          have b_99 := hfr_89 12 (by decide)
          have haA : ∀ j, j ∉ ([2, 3, 4] : List Nat) → a_87 j = a j := fun j h => (hfr_90 j (fun q => h (by first | exact q | (simp only [List.mem_cons, List.not_mem_nil, or_false] at q ⊢ <;> omega)))).trans (haA j h)
          have h_84 : g_86 7 = g_51 7 + 1 := h_84
          have h_85 : a_87 2 = up (a_52 2) (g_51 7) 1 := h_85
          have b_100 : g_86 1 = g_51 1 := hfr_89 1 (by decide)
          have b_101 : g_86 2 = g_51 2 := hfr_89 2 (by decide)
          have b_102 : g_86 3 = g_51 3 := hfr_89 3 (by decide)
          have b_103 : g_86 4 = g_51 4 := hfr_89 4 (by decide)
          have b_104 : g_86 8 = g_51 8 := hfr_89 8 (by decide)
          have b_105 : g_86 9 = g_51 9 := hfr_89 9 (by decide)
          have b_106 : g_86 12 = g_51 12 := hfr_89 12 (by decide)
          have b_107 : g_86 15 = g_51 15 := hfr_89 15 (by decide)
          have t_108 : a_87 2 = up (up (up (a 2) (g 7) 12) ((g 7 + 1)) 141) (((g 7 + 1) + 1)) 1 := h_85.trans (up_c t_73 (by omega) (by omega))
          have t_109 : a_87 3 = a 3 := (hfr_90 3 (by decide)).trans t_74
          have t_110 : a_87 4 = a 4 := (hfr_90 4 (by decide)).trans t_75
          have t_111 : a_87 5 = a 5 := (hfr_90 5 (by decide)).trans t_76
          have t_112 : a_87 6 = a 6 := (hfr_90 6 (by decide)).trans t_77
          have t_113 : a_87 7 = a 7 := (hfr_90 7 (by decide)).trans t_78
          have t_114 : a_87 8 = a 8 := (hfr_90 8 (by decide)).trans t_79
          have b_115 : 0 ≤ g_86 7 ∧ g_86 7 ≤ 1200 := hI.1 7
          refine lv_aload_n hx hb dX13_factor_103 rfl (lv_at hl 0 rfl) ?_
          refine jcg_i (va_runV (As := []) (rest := []) ⟨hx, hb, hml, hown, hts⟩ (sX13_takes l dC dI _ ad ca sK sV g_86 a_87  hI (by omega)) (cwV 0 hts (jgoodV m_228 m_480 m_481 m_503 m_208) rfl rfl rfl (by decide +kernel) ⟨(Nat.le_of_ble_eq_true rfl), (Nat.le_of_ble_eq_true rfl)⟩) ⟨mP_blind, va_recv hK hP (ci := 13) (q0 := 0) rfl rfl, fun U hU hW => ⟨rfl, mP_of hU hW hP hK hD hXs hS (fun _ h => h) hA⟩⟩ rfl rfl hl.1 rfl (lv_room (Nat.le_of_ble_eq_true rfl)) dX13_factor_104 ⟨(Nat.le_of_ble_eq_true rfl), (Nat.le_of_ble_eq_true rfl)⟩) hD hS hA (fun r_116 u_127 H locs w_117 hP hK hD hS => ?_)
          obtain ⟨g_125, a_126⟩ := u_127
          obtain ⟨z_118, rfl, hI, hfr_128, hfr_129, h_119, h_120, h_121, h_122, h_123, h_124⟩ := w_117
          have hP : va_P (dC, dI) vwCl (mG ad ca g_125 a_126) H := hP
          have hD : va_D A (mG ad ca g_125 a_126) := hD
          have hfA : ∀ j, j ∉ ([2, 3, 4, 5, 7, 8, 12] : List Nat) → g_125 j = g j := fun j h => (hfr_128 j (fun q => h (by first | exact q | (simp only [List.mem_cons, List.not_mem_nil, or_false] at q ⊢ <;> omega)))).trans (hfA j h)
          have b_131 : g_125 1 = g 1 := hfA 1 (by decide)
          have b_132 : g_125 9 = g 9 := hfA 9 (by decide)
          have b_133 : g_125 15 = g 15 := hfA 15 (by decide)
          have b_134 := hfr_128 7 (by decide)
          have b_135 := hfr_128 8 (by decide)
          have b_136 := hfr_128 12 (by decide)
          have haA : ∀ j, j ∉ ([2, 3, 4] : List Nat) → a_126 j = a j := fun j h => (hfr_129 j (fun q => h (by first | exact q | (simp only [List.mem_cons, List.not_mem_nil, or_false] at q ⊢ <;> omega)))).trans (haA j h)
          have h_121 : g_86 2 ≤ g_125 2 := h_121
          have h_122 : g_125 2 ≤ g_86 1 := h_122
          have h_123 : g_125 3 = 0 ∨ g_86 2 + 1 ≤ g_125 2 := h_123
          have h_124 : g_125 4 ≤ g_125 2 := h_124
          have b_137 : g_125 1 = g_86 1 := hfr_128 1 (by decide)
          have b_138 : g_125 7 = g_86 7 := hfr_128 7 (by decide)
          have b_139 : g_125 8 = g_86 8 := hfr_128 8 (by decide)
          have b_140 : g_125 9 = g_86 9 := hfr_128 9 (by decide)
          have b_141 : g_125 12 = g_86 12 := hfr_128 12 (by decide)
          have b_142 : g_125 15 = g_86 15 := hfr_128 15 (by decide)
          have t_143 : a_126 2 = up (up (up (a 2) (g 7) 12) ((g 7 + 1)) 141) (((g 7 + 1) + 1)) 1 := (hfr_129 2 (by decide)).trans t_108
          have t_144 : a_126 3 = a 3 := (hfr_129 3 (by decide)).trans t_109
          have t_145 : a_126 4 = a 4 := (hfr_129 4 (by decide)).trans t_110
          have t_146 : a_126 5 = a 5 := (hfr_129 5 (by decide)).trans t_111
          have t_147 : a_126 6 = a 6 := (hfr_129 6 (by decide)).trans t_112
          have t_148 : a_126 7 = a 7 := (hfr_129 7 (by decide)).trans t_113
          have t_149 : a_126 8 = a 8 := (hfr_129 8 (by decide)).trans t_114
          have b_150 : 0 ≤ g_125 1 ∧ g_125 1 ≤ 600 := hI.1 1
          have b_151 : 0 ≤ g_125 2 ∧ g_125 2 ≤ 600 := hI.1 2
          rw [← hQ]
          exact W.zret (v := iI z_118) (ty := .boolean) hx hb hr (nb_bool (by omega) (by omega)) (fun t ht hW => ⟨⟨iI z_118, (g_125, a_126), rfl, ⟨z_118, rfl, hI, hfA, haA, by omega, by show z_118 = 0 ∨ (rPn g_125 a_126 (g_125 7) ∧ mz g_125 a_126 (g_125 7) < mz g a (g 7 + 1)); first | exact Or.inl rfl | exact Or.inr (st_5e hrP1 (by omega) k1 (Or.inl rfl) (by omega) (by omega) (by omega) (by omega) t_144 t_145 t_146 t_147 t_148 t_149 (by omega) (by omega) (by omega) ⟨by omega, by omega, by omega⟩ t_143) | exact Or.inr (st_5e hrP1 (by omega) k1 (Or.inr ⟨rfl, by omega, by omega⟩) (by omega) (by omega) (by omega) (by omega) t_144 t_145 t_146 t_147 t_148 t_149 (by omega) (by omega) (by omega) ⟨by omega, by omega, by omega⟩ t_143) | exact Or.inr (st_5p hrP1 (by omega) k1 ⟨by omega, by omega, by omega, by omega, t_144, t_145, t_146, t_147, t_148, t_149⟩ (by omega) (by omega) (by omega) (by omega) ⟨by omega, by omega, by omega⟩ ((t_143).trans (up_c rfl (by omega) rfl)))⟩, by rw [ht]; exact hP, va_K.moved hW.alike hK, hD⟩, hS.F ht⟩) hS.2.2 dX13_factor_107
        · refine lv_iconst (v := iI 0) hx hb dX13_factor_89 rfl ?_
          rw [← hQ]
          exact W.zret (v := iI 0) (ty := .boolean) hx hb hr (nb_bool (by omega) (by omega)) (fun t ht hW => ⟨⟨iI 0, (g_17, a_18), rfl, ⟨0, rfl, hI, hfA, haA, by omega, by show 0 = 0 ∨ (rPn g_17 a_18 (g_17 7) ∧ mz g_17 a_18 (g_17 7) < mz g a (g 7 + 1)); first | exact Or.inl rfl | exact Or.inr (st_5e hrP1 (by omega) k1 (Or.inl rfl) (by omega) (by omega) (by omega) (by omega) t_37 t_38 t_39 t_40 t_41 t_42 (by omega) (by omega) (by omega) ⟨by omega, by omega, by omega⟩ rfl) | exact Or.inr (st_5e hrP1 (by omega) k1 (Or.inr ⟨rfl, by omega, by omega⟩) (by omega) (by omega) (by omega) (by omega) t_37 t_38 t_39 t_40 t_41 t_42 (by omega) (by omega) (by omega) ⟨by omega, by omega, by omega⟩ rfl) | exact Or.inr (st_5p hrP1 (by omega) k1 ⟨by omega, by omega, by omega, by omega, t_37, t_38, t_39, t_40, t_41, t_42⟩ (by omega) (by omega) (by omega) (by omega) ⟨by omega, by omega, by omega⟩ ((rfl).trans (up_c rfl (by omega) rfl)))⟩, by rw [ht]; exact hP, va_K.moved hW.alike hK, hD⟩, hS.F ht⟩) hS.2.2 dX13_factor_90
    refine xr_icmp_ne (tgt := 73) hx hb dX13_factor_39 (by decide) (by omega) (by omega) (fun h_152 => ?_) (fun h_152 => ?_)
    · exact J73 H locs ls hP hD hS hl
    · refine lv_aload_n hx hb dX13_factor_42 rfl (lv_at hl 0 rfl) ?_
      refine gf_tokenValue hx hb hj hown hK hP hI dX13_factor_43 (fun h_153 => ?_)
      refine lv_bipush (v := iI 16) hx hb dX13_factor_46 rfl ?_
      refine lv_bipush (v := iI 24) hx hb dX13_factor_48 rfl ?_
      refine jc_i (va_runS (As := [.int (iI (g 5)), .int (iI 16), .int (iI 24)]) (rest := []) ⟨hx, hb, hml, hown, hts⟩ (sX13_in l dC dI _ (g 5) 16 24 (by omega) (by omega) (by omega)) (va_cwS 3 hts (jgoodS m_220 m_364 m_503 m_147) rfl rfl rfl (by decide +kernel) ⟨(Nat.le_of_ble_eq_true rfl), (Nat.le_of_ble_eq_true rfl)⟩) ⟨jw_blind0, fun U hU hW => ⟨rfl, congrArg Array.size hU⟩⟩ rfl rfl hl.1 rfl (lv_room (Nat.le_of_ble_eq_true rfl)) dX13_factor_50 ⟨(Nat.le_of_ble_eq_true rfl), (Nat.le_of_ble_eq_true rfl)⟩) hP hS hA (fun r_154 H locs w_155 hP hS => ?_)
      obtain ⟨z_156, rfl, h_157, h_158⟩ := w_155
      refine xr_if_eq (tgt := 73) hx hb dX13_factor_53 (by decide) (by omega) (fun h_159 => ?_) (fun h_159 => ?_)
      · exact J73 H locs ls hP hD hS hl
      · refine lv_aload_n hx hb dX13_factor_56 rfl (lv_at hl 0 rfl) ?_
        refine lv_iconst (v := iI 1) hx hb dX13_factor_57 rfl ?_
        refine lv_aload_n hx hb dX13_factor_58 rfl (lv_at hl 0 rfl) ?_
        refine gf_tokenValue hx hb hj hown hK hP hI dX13_factor_59 (fun h_160 => ?_)
        refine lv_bipush (v := iI 16) hx hb dX13_factor_62 rfl ?_
        refine xr_sub hx hb dX13_factor_64 ?_
        refine xr_kept (fun z_161 h_162 h_163 => ?_)
        have tk9 := tkk_0 (show g 3 ≠ 0 by omega)
        refine jcg_v (va_runV (As := [.int (iI 1), .int (iI z_161)]) (rest := []) ⟨hx, hb, hml, hown, hts⟩ (sX13_emits l dC dI _ ad ca g a 1 z_161 hI (by omega) (by omega) (by omega)) (cwV 2 hts (jgoodV m_226 m_322 m_323 m_503 m_126) rfl rfl rfl (by decide +kernel) ⟨(Nat.le_of_ble_eq_true rfl), (Nat.le_of_ble_eq_true rfl)⟩) ⟨jw_blind, va_recv hK hP (ci := 13) (q0 := 0) rfl rfl, fun U hU hW => ⟨rfl, jw_of hU hW hP hK hD⟩⟩ rfl rfl hl.1 rfl (lv_room (Nat.le_of_ble_eq_true rfl)) dX13_factor_65 ⟨(Nat.le_of_ble_eq_true rfl), (Nat.le_of_ble_eq_true rfl)⟩) hD hS hA (fun u_172 H locs w_165 hP hK hD hS => ?_)
        obtain ⟨g_170, a_171⟩ := u_172
        obtain ⟨hI, hfr_173, hfr_174, h_167, h_168, h_169⟩ := w_165
        have hP : va_P (dC, dI) vwCl (mG ad ca g_170 a_171) H := hP
        have hD : va_D A (mG ad ca g_170 a_171) := hD
        have hfA : ∀ j, j ∉ ([2, 3, 4, 5, 7, 8, 12] : List Nat) → g_170 j = g j := fun j h => (hfr_173 j (fun q => h (by first | exact q | (simp only [List.mem_cons, List.not_mem_nil, or_false] at q ⊢ <;> omega)))).trans (hfA j h)
        have b_176 : g_170 1 = g 1 := hfA 1 (by decide)
        have b_177 : g_170 9 = g 9 := hfA 9 (by decide)
        have b_178 : g_170 15 = g 15 := hfA 15 (by decide)
        have b_179 := hfr_173 2 (by decide)
        have b_180 := hfr_173 3 (by decide)
        have b_181 := hfr_173 5 (by decide)
        have b_182 := hfr_173 7 (by decide)
        have b_183 := hfr_173 8 (by decide)
        have haA : ∀ j, j ∉ ([2, 3, 4] : List Nat) → a_171 j = a j := fun j h => (hfr_174 j (fun q => h (by first | exact q | (simp only [List.mem_cons, List.not_mem_nil, or_false] at q ⊢ <;> omega)))).trans (haA j h)
        have h_167 : g_170 12 = g 12 + 1 := h_167
        have h_168 : a_171 3 = up (a 3) (g 12) 1 := h_168
        have h_169 : a_171 4 = up (a 4) (g 12) z_161 := h_169
        have b_184 : g_170 1 = g 1 := hfr_173 1 (by decide)
        have b_185 : g_170 2 = g 2 := hfr_173 2 (by decide)
        have b_186 : g_170 3 = g 3 := hfr_173 3 (by decide)
        have b_187 : g_170 4 = g 4 := hfr_173 4 (by decide)
        have b_188 : g_170 7 = g 7 := hfr_173 7 (by decide)
        have b_189 : g_170 8 = g 8 := hfr_173 8 (by decide)
        have b_190 : g_170 9 = g 9 := hfr_173 9 (by decide)
        have b_191 : g_170 15 = g 15 := hfr_173 15 (by decide)
        have t_192 : a_171 2 = a 2 := (hfr_174 2 (by decide)).trans rfl
        have t_193 : a_171 3 = up (a 3) (g 12) 1 := h_168.trans (up_c rfl (by omega) (by omega))
        have t_194 : a_171 4 = up (a 4) (g 12) z_161 := h_169.trans (up_c rfl (by omega) (by omega))
        have t_195 : a_171 5 = a 5 := (hfr_174 5 (by decide)).trans rfl
        have t_196 : a_171 6 = a 6 := (hfr_174 6 (by decide)).trans rfl
        have t_197 : a_171 7 = a 7 := (hfr_174 7 (by decide)).trans rfl
        have t_198 : a_171 8 = a 8 := (hfr_174 8 (by decide)).trans rfl
        have b_199 : 0 ≤ g_170 12 ∧ g_170 12 ≤ 600 := hI.1 12
        refine lv_aload_n hx hb dX13_factor_68 rfl (lv_at hl 0 rfl) ?_
        refine jcg_i (va_runV (As := []) (rest := []) ⟨hx, hb, hml, hown, hts⟩ (sX13_takes l dC dI _ ad ca sK sV g_170 a_171  hI (by omega)) (cwV 0 hts (jgoodV m_228 m_480 m_481 m_503 m_208) rfl rfl rfl (by decide +kernel) ⟨(Nat.le_of_ble_eq_true rfl), (Nat.le_of_ble_eq_true rfl)⟩) ⟨mP_blind, va_recv hK hP (ci := 13) (q0 := 0) rfl rfl, fun U hU hW => ⟨rfl, mP_of hU hW hP hK hD hXs hS (fun _ h => h) hA⟩⟩ rfl rfl hl.1 rfl (lv_room (Nat.le_of_ble_eq_true rfl)) dX13_factor_69 ⟨(Nat.le_of_ble_eq_true rfl), (Nat.le_of_ble_eq_true rfl)⟩) hD hS hA (fun r_200 u_211 H locs w_201 hP hK hD hS => ?_)
        obtain ⟨g_209, a_210⟩ := u_211
        obtain ⟨z_202, rfl, hI, hfr_212, hfr_213, h_203, h_204, h_205, h_206, h_207, h_208⟩ := w_201
        have hP : va_P (dC, dI) vwCl (mG ad ca g_209 a_210) H := hP
        have hD : va_D A (mG ad ca g_209 a_210) := hD
        have hfA : ∀ j, j ∉ ([2, 3, 4, 5, 7, 8, 12] : List Nat) → g_209 j = g j := fun j h => (hfr_212 j (fun q => h (by first | exact q | (simp only [List.mem_cons, List.not_mem_nil, or_false] at q ⊢ <;> omega)))).trans (hfA j h)
        have b_215 : g_209 1 = g 1 := hfA 1 (by decide)
        have b_216 : g_209 9 = g 9 := hfA 9 (by decide)
        have b_217 : g_209 15 = g 15 := hfA 15 (by decide)
        have b_218 := hfr_212 7 (by decide)
        have b_219 := hfr_212 8 (by decide)
        have b_220 := hfr_212 12 (by decide)
        have haA : ∀ j, j ∉ ([2, 3, 4] : List Nat) → a_210 j = a j := fun j h => (hfr_213 j (fun q => h (by first | exact q | (simp only [List.mem_cons, List.not_mem_nil, or_false] at q ⊢ <;> omega)))).trans (haA j h)
        have h_205 : g_170 2 ≤ g_209 2 := h_205
        have h_206 : g_209 2 ≤ g_170 1 := h_206
        have h_207 : g_209 3 = 0 ∨ g_170 2 + 1 ≤ g_209 2 := h_207
        have h_208 : g_209 4 ≤ g_209 2 := h_208
        have b_221 : g_209 1 = g_170 1 := hfr_212 1 (by decide)
        have b_222 : g_209 7 = g_170 7 := hfr_212 7 (by decide)
        have b_223 : g_209 8 = g_170 8 := hfr_212 8 (by decide)
        have b_224 : g_209 9 = g_170 9 := hfr_212 9 (by decide)
        have b_225 : g_209 12 = g_170 12 := hfr_212 12 (by decide)
        have b_226 : g_209 15 = g_170 15 := hfr_212 15 (by decide)
        have t_227 : a_210 2 = a 2 := (hfr_213 2 (by decide)).trans t_192
        have t_228 : a_210 3 = up (a 3) (g 12) 1 := (hfr_213 3 (by decide)).trans t_193
        have t_229 : a_210 4 = up (a 4) (g 12) z_161 := (hfr_213 4 (by decide)).trans t_194
        have t_230 : a_210 5 = a 5 := (hfr_213 5 (by decide)).trans t_195
        have t_231 : a_210 6 = a 6 := (hfr_213 6 (by decide)).trans t_196
        have t_232 : a_210 7 = a 7 := (hfr_213 7 (by decide)).trans t_197
        have t_233 : a_210 8 = a 8 := (hfr_213 8 (by decide)).trans t_198
        have b_234 : 0 ≤ g_209 1 ∧ g_209 1 ≤ 600 := hI.1 1
        have b_235 : 0 ≤ g_209 2 ∧ g_209 2 ≤ 600 := hI.1 2
        rw [← hQ]
        exact W.zret (v := iI z_202) (ty := .boolean) hx hb hr (nb_bool (by omega) (by omega)) (fun t ht hW => ⟨⟨iI z_202, (g_209, a_210), rfl, ⟨z_202, rfl, hI, hfA, haA, by omega, by show z_202 = 0 ∨ (rPn g_209 a_210 (g_209 7) ∧ mz g_209 a_210 (g_209 7) < mz g a (g 7 + 1)); first | exact Or.inl rfl | exact Or.inr (st_5e hrP1 (by omega) k1 (Or.inl rfl) (by omega) (by omega) (by omega) (by omega) t_228 t_229 t_230 t_231 t_232 t_233 (by omega) (by omega) (by omega) ⟨by omega, by omega, by omega⟩ t_227) | exact Or.inr (st_5e hrP1 (by omega) k1 (Or.inr ⟨rfl, by omega, by omega⟩) (by omega) (by omega) (by omega) (by omega) t_228 t_229 t_230 t_231 t_232 t_233 (by omega) (by omega) (by omega) ⟨by omega, by omega, by omega⟩ t_227) | exact Or.inr (st_5p hrP1 (by omega) k1 ⟨by omega, by omega, by omega, by omega, t_228, t_229, t_230, t_231, t_232, t_233⟩ (by omega) (by omega) (by omega) (by omega) ⟨by omega, by omega, by omega⟩ ((t_227).trans (up_c rfl (by omega) rfl)))⟩, by rw [ht]; exact hP, va_K.moved hW.alike hK, hD⟩, hS.F ht⟩) hS.2.2 dX13_factor_72
  · refine lv_aload_n hx hb dX13_factor_8 rfl (lv_at hl 0 rfl) ?_
    refine gf_tokenValue hx hb hj hown hK hP hI dX13_factor_9 (fun h_236 => ?_)
    refine lv_ldcw hx hb hown (hts (.constant RX13 364 99999) (jm m_506)) dX13_factor_12 ?_
    refine jt_i (iI 99999) (by decide) ?_
    refine xr_icmp_le (tgt := 20) hx hb dX13_factor_15 (by decide) (by omega) (by omega) (fun h_237 => ?_) (fun h_237 => ?_)
    · refine lv_aload_n hx hb dX13_factor_20 rfl (lv_at hl 0 rfl) ?_
      refine lv_iconst (v := iI 0) hx hb dX13_factor_21 rfl ?_
      refine lv_aload_n hx hb dX13_factor_22 rfl (lv_at hl 0 rfl) ?_
      refine gf_tokenValue hx hb hj hown hK hP hI dX13_factor_23 (fun h_238 => ?_)
      have tk9 := tkk_0 (show g 3 ≠ 0 by omega)
      refine jcg_v (va_runV (As := [.int (iI 0), .int (iI (g 5))]) (rest := []) ⟨hx, hb, hml, hown, hts⟩ (sX13_emits l dC dI _ ad ca g a 0 (g 5) hI (by omega) (by omega) (by omega)) (cwV 2 hts (jgoodV m_226 m_322 m_323 m_503 m_126) rfl rfl rfl (by decide +kernel) ⟨(Nat.le_of_ble_eq_true rfl), (Nat.le_of_ble_eq_true rfl)⟩) ⟨jw_blind, va_recv hK hP (ci := 13) (q0 := 0) rfl rfl, fun U hU hW => ⟨rfl, jw_of hU hW hP hK hD⟩⟩ rfl rfl hl.1 rfl (lv_room (Nat.le_of_ble_eq_true rfl)) dX13_factor_26 ⟨(Nat.le_of_ble_eq_true rfl), (Nat.le_of_ble_eq_true rfl)⟩) hD hS hA (fun u_247 H locs w_240 hP hK hD hS => ?_)
      obtain ⟨g_245, a_246⟩ := u_247
      obtain ⟨hI, hfr_248, hfr_249, h_242, h_243, h_244⟩ := w_240
      have hP : va_P (dC, dI) vwCl (mG ad ca g_245 a_246) H := hP
      have hD : va_D A (mG ad ca g_245 a_246) := hD
      have hfA : ∀ j, j ∉ ([2, 3, 4, 5, 7, 8, 12] : List Nat) → g_245 j = g j := fun j h => (hfr_248 j (fun q => h (by first | exact q | (simp only [List.mem_cons, List.not_mem_nil, or_false] at q ⊢ <;> omega)))).trans (hfA j h)
      have b_251 : g_245 1 = g 1 := hfA 1 (by decide)
      have b_252 : g_245 9 = g 9 := hfA 9 (by decide)
      have b_253 : g_245 15 = g 15 := hfA 15 (by decide)
      have b_254 := hfr_248 2 (by decide)
      have b_255 := hfr_248 3 (by decide)
      have b_256 := hfr_248 5 (by decide)
      have b_257 := hfr_248 7 (by decide)
      have b_258 := hfr_248 8 (by decide)
      have haA : ∀ j, j ∉ ([2, 3, 4] : List Nat) → a_246 j = a j := fun j h => (hfr_249 j (fun q => h (by first | exact q | (simp only [List.mem_cons, List.not_mem_nil, or_false] at q ⊢ <;> omega)))).trans (haA j h)
      have h_242 : g_245 12 = g 12 + 1 := h_242
      have h_243 : a_246 3 = up (a 3) (g 12) 0 := h_243
      have h_244 : a_246 4 = up (a 4) (g 12) (g 5) := h_244
      have b_259 : g_245 1 = g 1 := hfr_248 1 (by decide)
      have b_260 : g_245 2 = g 2 := hfr_248 2 (by decide)
      have b_261 : g_245 3 = g 3 := hfr_248 3 (by decide)
      have b_262 : g_245 4 = g 4 := hfr_248 4 (by decide)
      have b_263 : g_245 7 = g 7 := hfr_248 7 (by decide)
      have b_264 : g_245 8 = g 8 := hfr_248 8 (by decide)
      have b_265 : g_245 9 = g 9 := hfr_248 9 (by decide)
      have b_266 : g_245 15 = g 15 := hfr_248 15 (by decide)
      have t_267 : a_246 2 = a 2 := (hfr_249 2 (by decide)).trans rfl
      have t_268 : a_246 3 = up (a 3) (g 12) 0 := h_243.trans (up_c rfl (by omega) (by omega))
      have t_269 : a_246 4 = up (a 4) (g 12) (g 5) := h_244.trans (up_c rfl (by omega) (by omega))
      have t_270 : a_246 5 = a 5 := (hfr_249 5 (by decide)).trans rfl
      have t_271 : a_246 6 = a 6 := (hfr_249 6 (by decide)).trans rfl
      have t_272 : a_246 7 = a 7 := (hfr_249 7 (by decide)).trans rfl
      have t_273 : a_246 8 = a 8 := (hfr_249 8 (by decide)).trans rfl
      have b_274 : 0 ≤ g_245 12 ∧ g_245 12 ≤ 600 := hI.1 12
      refine lv_aload_n hx hb dX13_factor_29 rfl (lv_at hl 0 rfl) ?_
      refine jcg_i (va_runV (As := []) (rest := []) ⟨hx, hb, hml, hown, hts⟩ (sX13_takes l dC dI _ ad ca sK sV g_245 a_246  hI (by omega)) (cwV 0 hts (jgoodV m_228 m_480 m_481 m_503 m_208) rfl rfl rfl (by decide +kernel) ⟨(Nat.le_of_ble_eq_true rfl), (Nat.le_of_ble_eq_true rfl)⟩) ⟨mP_blind, va_recv hK hP (ci := 13) (q0 := 0) rfl rfl, fun U hU hW => ⟨rfl, mP_of hU hW hP hK hD hXs hS (fun _ h => h) hA⟩⟩ rfl rfl hl.1 rfl (lv_room (Nat.le_of_ble_eq_true rfl)) dX13_factor_30 ⟨(Nat.le_of_ble_eq_true rfl), (Nat.le_of_ble_eq_true rfl)⟩) hD hS hA (fun r_275 u_286 H locs w_276 hP hK hD hS => ?_)
      obtain ⟨g_284, a_285⟩ := u_286
      obtain ⟨z_277, rfl, hI, hfr_287, hfr_288, h_278, h_279, h_280, h_281, h_282, h_283⟩ := w_276
      have hP : va_P (dC, dI) vwCl (mG ad ca g_284 a_285) H := hP
      have hD : va_D A (mG ad ca g_284 a_285) := hD
      have hfA : ∀ j, j ∉ ([2, 3, 4, 5, 7, 8, 12] : List Nat) → g_284 j = g j := fun j h => (hfr_287 j (fun q => h (by first | exact q | (simp only [List.mem_cons, List.not_mem_nil, or_false] at q ⊢ <;> omega)))).trans (hfA j h)
      have b_290 : g_284 1 = g 1 := hfA 1 (by decide)
      have b_291 : g_284 9 = g 9 := hfA 9 (by decide)
      have b_292 : g_284 15 = g 15 := hfA 15 (by decide)
      have b_293 := hfr_287 7 (by decide)
      have b_294 := hfr_287 8 (by decide)
      have b_295 := hfr_287 12 (by decide)
      have haA : ∀ j, j ∉ ([2, 3, 4] : List Nat) → a_285 j = a j := fun j h => (hfr_288 j (fun q => h (by first | exact q | (simp only [List.mem_cons, List.not_mem_nil, or_false] at q ⊢ <;> omega)))).trans (haA j h)
      have h_280 : g_245 2 ≤ g_284 2 := h_280
      have h_281 : g_284 2 ≤ g_245 1 := h_281
      have h_282 : g_284 3 = 0 ∨ g_245 2 + 1 ≤ g_284 2 := h_282
      have h_283 : g_284 4 ≤ g_284 2 := h_283
      have b_296 : g_284 1 = g_245 1 := hfr_287 1 (by decide)
      have b_297 : g_284 7 = g_245 7 := hfr_287 7 (by decide)
      have b_298 : g_284 8 = g_245 8 := hfr_287 8 (by decide)
      have b_299 : g_284 9 = g_245 9 := hfr_287 9 (by decide)
      have b_300 : g_284 12 = g_245 12 := hfr_287 12 (by decide)
      have b_301 : g_284 15 = g_245 15 := hfr_287 15 (by decide)
      have t_302 : a_285 2 = a 2 := (hfr_288 2 (by decide)).trans t_267
      have t_303 : a_285 3 = up (a 3) (g 12) 0 := (hfr_288 3 (by decide)).trans t_268
      have t_304 : a_285 4 = up (a 4) (g 12) (g 5) := (hfr_288 4 (by decide)).trans t_269
      have t_305 : a_285 5 = a 5 := (hfr_288 5 (by decide)).trans t_270
      have t_306 : a_285 6 = a 6 := (hfr_288 6 (by decide)).trans t_271
      have t_307 : a_285 7 = a 7 := (hfr_288 7 (by decide)).trans t_272
      have t_308 : a_285 8 = a 8 := (hfr_288 8 (by decide)).trans t_273
      have b_309 : 0 ≤ g_284 1 ∧ g_284 1 ≤ 600 := hI.1 1
      have b_310 : 0 ≤ g_284 2 ∧ g_284 2 ≤ 600 := hI.1 2
      rw [← hQ]
      exact W.zret (v := iI z_277) (ty := .boolean) hx hb hr (nb_bool (by omega) (by omega)) (fun t ht hW => ⟨⟨iI z_277, (g_284, a_285), rfl, ⟨z_277, rfl, hI, hfA, haA, by omega, by show z_277 = 0 ∨ (rPn g_284 a_285 (g_284 7) ∧ mz g_284 a_285 (g_284 7) < mz g a (g 7 + 1)); first | exact Or.inl rfl | exact Or.inr (st_5e hrP1 (by omega) k1 (Or.inl rfl) (by omega) (by omega) (by omega) (by omega) t_303 t_304 t_305 t_306 t_307 t_308 (by omega) (by omega) (by omega) ⟨by omega, by omega, by omega⟩ t_302) | exact Or.inr (st_5e hrP1 (by omega) k1 (Or.inr ⟨rfl, by omega, by omega⟩) (by omega) (by omega) (by omega) (by omega) t_303 t_304 t_305 t_306 t_307 t_308 (by omega) (by omega) (by omega) ⟨by omega, by omega, by omega⟩ t_302) | exact Or.inr (st_5p hrP1 (by omega) k1 ⟨by omega, by omega, by omega, by omega, t_303, t_304, t_305, t_306, t_307, t_308⟩ (by omega) (by omega) (by omega) (by omega) ⟨by omega, by omega, by omega⟩ ((t_302).trans (up_c rfl (by omega) rfl)))⟩, by rw [ht]; exact hP, va_K.moved hW.alike hK, hD⟩, hS.F ht⟩) hS.2.2 dX13_factor_33
    · refine lv_iconst (v := iI 0) hx hb dX13_factor_18 rfl ?_
      rw [← hQ]
      exact W.zret (v := iI 0) (ty := .boolean) hx hb hr (nb_bool (by omega) (by omega)) (fun t ht hW => ⟨⟨iI 0, (g, a), rfl, ⟨0, rfl, hI, hfA, haA, by omega, by show 0 = 0 ∨ (rPn g a (g 7) ∧ mz g a (g 7) < mz g a (g 7 + 1)); first | exact Or.inl rfl | exact Or.inr (st_5e hrP1 (by omega) k1 (Or.inl rfl) (by omega) (by omega) (by omega) (by omega) rfl rfl rfl rfl rfl rfl (by omega) (by omega) (by omega) ⟨by omega, by omega, by omega⟩ rfl) | exact Or.inr (st_5e hrP1 (by omega) k1 (Or.inr ⟨rfl, by omega, by omega⟩) (by omega) (by omega) (by omega) (by omega) rfl rfl rfl rfl rfl rfl (by omega) (by omega) (by omega) ⟨by omega, by omega, by omega⟩ rfl) | exact Or.inr (st_5p hrP1 (by omega) k1 ⟨by omega, by omega, by omega, by omega, rfl, rfl, rfl, rfl, rfl, rfl⟩ (by omega) (by omega) (by omega) (by omega) ⟨by omega, by omega, by omega⟩ ((rfl).trans (up_c rfl (by omega) rfl)))⟩, by rw [ht]; exact hP, va_K.moved hW.alike hK, hD⟩, hS.F ht⟩) hS.2.2 dX13_factor_19
