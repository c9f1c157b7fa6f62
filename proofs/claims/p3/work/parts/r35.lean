set_option maxHeartbeats 2000000 in
set_option maxRecDepth 100000 in
theorem sX13_moreWords (l : Launch) (dC : Nat → ClassId) (dI : Nat → Nat → Nat) (sz : Nat) (ad : Nat → Nat) (ca : Nat → ClassId) (sK sV : Nat → Nat) (g : Nat → Int) (a : Nat → Int → Int) (tT : Int → Int) (tN : Int) (p1 : Int) (p2 : Int) (p3 : Int) (p4 : Int) (hI : mI g a) (q1 : rg p1) (q2 : rg p2) (q3 : rg p3) (q4 : rg p4) (k1 : (p1 = 25 ∧ p2 = 10 ∧ p3 = 7 ∧ p4 = 8 ∧ a 2 (g 7) = 7) ∨ (p1 = 26 ∧ p2 = 9 ∧ p3 = 9 ∧ p4 = 10 ∧ a 2 (g 7) = 9)) (hrP1 : rP1 g a) (hrTx : txR tT tN g a) (hrTk : tkR tT tN g a) : Met l yX13_moreWords (jk yX13_moreWords cX13_moreWords 5 (some .boolean)) ({ frames := 6, cells := 0, slots := 0, locals := 133 }) (va_Pc [.ref (ad 0), .int (iI p1), .int (iI p2), .int (iI p3), .int (iI p4)] (mP (dC, dI) (mG ad ca g a) (mT ca) sK sV sz)) (va_Qi (fun (r : Int32) (u : (Nat → Int) × (Nat → Int → Int)) => ∃ z : Int, r = iI z ∧ (mI u.1 u.2) ∧ (∀ j, j ∉ ([2, 3, 4, 5, 7] : List Nat) → u.1 j = g j) ∧ (∀ j, j ∉ ([2] : List Nat) → u.2 j = a j) ∧ (0 ≤ z ∧ z ≤ 1) ∧ (z = 0 ∨ (rPn u.1 u.2 (u.1 7) ∧ mz u.1 u.2 (u.1 7) < mz g a (g 7 + 1))) ∧ (tkR tT tN u.1 u.2) ∧ (nst tT tN g a u.1 u.2 z)) (fun u t => va_P (dC, dI) vwCl (mG ad ca u.1 u.2) t.heap ∧ va_K (dC, dI) vwCl (mT ca) t ∧ va_D (va_A (mG ad ca g a) sz) (mG ad ca u.1 u.2)) (va_A (mG ad ca g a) sz)) 0 0 (va_A (mG ad ca g a) sz) := by
  refine Met.ofW (cc := cX13_moreWords) (maxL := 5) (ret := (some .boolean)) (by decide) rfl ?_
  intro p e s m args below meth c s₁ B hml hv
  obtain ⟨rfl, ⟨hsz, hP, hK, hD0⟩, hX0⟩ := hv
  have hx := B.exec
  have hb := B.bytes
  have hr := B.returns
  have hts := atoms_spec (ws := (jk yX13_moreWords cX13_moreWords 5 (some .boolean))) B.pre
  have hj : ∀ w ∈ jw, w.before ([.ref (ad 0), .int (iI p1), .int (iI p2), .int (iI p3), .int (iI p4)] : List Value).toArray s = true := fun w h => hts w (jm h)
  have hown : s.vm.findClass RX13 = some m.cls := findClass_of_methodNamed B.named
  subst hsz
  have hD := hD0.self (sz := s.heap.size)
  have hXs := hX0
  generalize hAe : (va_A (mG ad ca g a) s.heap.size) = A at hD hXs ⊢
  have hA : ∀ q : Nat, s.heap.size ≤ q → A q := fun q h => by rw [← hAe]; exact Or.inr h
  have hS : va_S A s.heap s.heap [] := va_S.rf
  have hP : va_P (dC, dI) vwCl (mG ad ca g a) s.heap := hP
  have hfA : ∀ j, j ∉ ([2, 3, 4, 5, 7] : List Nat) → g j = g j := fun _ _ => rfl
  have haA : ∀ j, j ∉ ([2] : List Nat) → a j = a j := fun _ _ => rfl
  have hl := lv_entry ([.ref (ad 0), .int (iI p1), .int (iI p2), .int (iI p3), .int (iI p4)]) (n := 5) (Nat.le_of_ble_eq_true rfl)
  rw [lg_entry_eq]
  generalize (lg_sl ([.ref (ad 0), .int (iI p1), .int (iI p2), .int (iI p3), .int (iI p4)]) ++ List.replicate (5 - (lg_sl ([.ref (ad 0), .int (iI p1), .int (iI p2), .int (iI p3), .int (iI p4)])).length) Slot.unset).toArray = ls at hl ⊢
  have hl : lv_has ls 5 [(0, .ref (ad 0)), (1, .int (iI p1)), (2, .int (iI p2)), (3, .int (iI p3)), (4, .int (iI p4))] := hl
  generalize hQ : MQ below (va_Qi (fun (r : Int32) (u : (Nat → Int) × (Nat → Int → Int)) => ∃ z : Int, r = iI z ∧ (mI u.1 u.2) ∧ (∀ j, j ∉ ([2, 3, 4, 5, 7] : List Nat) → u.1 j = g j) ∧ (∀ j, j ∉ ([2] : List Nat) → u.2 j = a j) ∧ (0 ≤ z ∧ z ≤ 1) ∧ (z = 0 ∨ (rPn u.1 u.2 (u.1 7) ∧ mz u.1 u.2 (u.1 7) < mz g a (g 7 + 1))) ∧ (tkR tT tN u.1 u.2) ∧ (nst tT tN g a u.1 u.2 z)) (fun u t => va_P (dC, dI) vwCl (mG ad ca u.1 u.2) t.heap ∧ va_K (dC, dI) vwCl (mT ca) t ∧ va_D A (mG ad ca u.1 u.2)) A) ([.ref (ad 0), .int (iI p1), .int (iI p2), .int (iI p3), .int (iI p4)] : List Value).toArray s 0 0 A = Q
  suffices ST : ∀ (H : Heap) (locs : List Loc), va_P (dC, dI) vwCl (mG ad ca g a) H → va_S A s.heap H locs → W p l e ({ frames := 6, cells := 0, slots := 0, locals := 133 }) s m ([.ref (ad 0), .int (iI p1), .int (iI p2), .int (iI p3), .int (iI p4)] : List Value).toArray below meth c H locs 0 0 Q (F0 m 0 ls []) from ST _ _ hP hS
  clear hP hS
  intro H locs hP hS
  obtain ⟨bb1, bb2, bb3, bb4, bb5, bb6⟩ := bd_1 hrP1
  have bb7 := tkk_b (g 3)
  have b7_0 : 0 ≤ g 7 ∧ g 7 ≤ 1200 := hI.1 7
  have b1_0 : 0 ≤ g 1 ∧ g 1 ≤ 600 := hI.1 1
  have b2_0 : 0 ≤ g 2 ∧ g 2 ≤ 600 := hI.1 2
  refine lv_aload_n hx hb dX13_moreWords_0 rfl (lv_at hl 0 rfl) ?_
  refine lv_iload_n hx hb dX13_moreWords_1 rfl (lv_at hl 1 rfl) ?_
  refine jc_i (va_runV (As := [.int (iI p1)]) (rest := []) ⟨hx, hb, hml, hown, hts⟩ (sX13_isWord l dC dI _ ad ca g a p1 hI (by omega)) (cwV 1 hts (jgoodV m_236 m_396 m_397 m_503 m_165) rfl rfl rfl (by decide +kernel) ⟨(Nat.le_of_ble_eq_true rfl), (Nat.le_of_ble_eq_true rfl)⟩) ⟨jw_blind, va_recv hK hP (ci := 13) (q0 := 0) rfl rfl, fun U hU hW => ⟨rfl, jw_of hU hW hP hK hD⟩⟩ rfl rfl hl.1 rfl (lv_room (Nat.le_of_ble_eq_true rfl)) dX13_moreWords_2 ⟨(Nat.le_of_ble_eq_true rfl), (Nat.le_of_ble_eq_true rfl)⟩) hP hS hA (fun r_1 H locs w_2 hP hS => ?_)
  obtain ⟨z_3, rfl, h_4, h_5⟩ := w_2
  have b_6 : 0 ≤ g 3 ∧ g 3 ≤ 4 := hI.1 3
  refine xr_if_ne (tgt := 10) hx hb dX13_moreWords_5 (by decide) (by omega) (fun h_7 => ?_) (fun h_7 => ?_)
  · refine lv_aload_n hx hb dX13_moreWords_10 rfl (lv_at hl 0 rfl) ?_
    refine jcg_v (va_runV (As := []) (rest := []) ⟨hx, hb, hml, hown, hts⟩ (sX13_next l dC dI _ ad ca sK sV g a tT tN  hI (by omega) hrTx) (cwV 0 hts (jgoodV m_224 m_433 m_434 m_503 m_184) rfl rfl rfl (by decide +kernel) ⟨(Nat.le_of_ble_eq_true rfl), (Nat.le_of_ble_eq_true rfl)⟩) ⟨mP_blind, va_recv hK hP (ci := 13) (q0 := 0) rfl rfl, fun U hU hW => ⟨rfl, mP_of hU hW hP hK hD hXs hS (fun _ h => h) hA⟩⟩ rfl rfl hl.1 rfl (lv_room (Nat.le_of_ble_eq_true rfl)) dX13_moreWords_11 ⟨(Nat.le_of_ble_eq_true rfl), (Nat.le_of_ble_eq_true rfl)⟩) hD hS hA (fun u_19 H locs w_9 hP hK hD hS => ?_)
    obtain ⟨g_17, a_18⟩ := u_19
    obtain ⟨hI, hfr_20, hfr_21, h_11, h_12, h_13, h_14, h_15, h_16⟩ := w_9
    have hP : va_P (dC, dI) vwCl (mG ad ca g_17 a_18) H := hP
    have hD : va_D A (mG ad ca g_17 a_18) := hD
    have hfA : ∀ j, j ∉ ([2, 3, 4, 5, 7] : List Nat) → g_17 j = g j := fun j h => (hfr_20 j (fun q => h (by first | exact q | (simp only [List.mem_cons, List.not_mem_nil, or_false] at q ⊢ <;> omega)))).trans (hfA j h)
    have b_23 : g_17 1 = g 1 := hfA 1 (by decide)
    have b_24 : g_17 8 = g 8 := hfA 8 (by decide)
    have b_25 : g_17 9 = g 9 := hfA 9 (by decide)
    have b_26 : g_17 12 = g 12 := hfA 12 (by decide)
    have b_27 : g_17 15 = g 15 := hfA 15 (by decide)
    have b_28 := hfr_20 7 (by decide)
    have haA : ∀ j, j ∉ ([2] : List Nat) → a_18 j = a j := fun j h => (hfr_21 j (fun q => h (by first | exact q | (simp only [List.mem_cons, List.not_mem_nil, or_false] at q ⊢ <;> omega)))).trans (haA j h)
    have h_11 : g 2 ≤ g_17 2 := h_11
    have h_12 : g_17 2 ≤ g 1 := h_12
    have h_13 : g_17 3 = 0 ∨ g 2 + 1 ≤ g_17 2 := h_13
    have h_14 : g_17 4 ≤ g_17 2 := h_14
    have h_15 : g_17 4 = scn (bB tT) tN (g 2) := h_15
    have h_16 : tkR tT tN g_17 a_18 := h_16
    have b_29 : g_17 1 = g 1 := hfr_20 1 (by decide)
    have b_30 : g_17 7 = g 7 := hfr_20 7 (by decide)
    have b_31 : g_17 8 = g 8 := hfr_20 8 (by decide)
    have b_32 : g_17 9 = g 9 := hfr_20 9 (by decide)
    have b_33 : g_17 12 = g 12 := hfr_20 12 (by decide)
    have b_34 : g_17 15 = g 15 := hfr_20 15 (by decide)
    have t_35 : a_18 2 = a 2 := (hfr_21 2 (by decide)).trans rfl
    have t_36 : a_18 3 = a 3 := (hfr_21 3 (by decide)).trans rfl
    have t_37 : a_18 4 = a 4 := (hfr_21 4 (by decide)).trans rfl
    have t_38 : a_18 5 = a 5 := (hfr_21 5 (by decide)).trans rfl
    have t_39 : a_18 6 = a 6 := (hfr_21 6 (by decide)).trans rfl
    have t_40 : a_18 7 = a 7 := (hfr_21 7 (by decide)).trans rfl
    have t_41 : a_18 8 = a 8 := (hfr_21 8 (by decide)).trans rfl
    have b_42 : 0 ≤ g_17 1 ∧ g_17 1 ≤ 600 := hI.1 1
    have b_43 : 0 ≤ g_17 2 ∧ g_17 2 ≤ 600 := hI.1 2
    have e9 : g_17 4 = scn (bB tT) tN (g 2) := h_15
    refine lv_aload_n hx hb dX13_moreWords_14 rfl (lv_at hl 0 rfl) ?_
    refine lv_iload_n hx hb dX13_moreWords_15 rfl (lv_at hl 3 rfl) ?_
    refine jcg_v (va_runV (As := [.int (iI p3)]) (rest := []) ⟨hx, hb, hml, hown, hts⟩ (sX13_push l dC dI _ ad ca g_17 a_18 p3 hI (by omega) (by omega)) (cwV 1 hts (jgoodV m_225 m_452 m_453 m_503 m_194) rfl rfl rfl (by decide +kernel) ⟨(Nat.le_of_ble_eq_true rfl), (Nat.le_of_ble_eq_true rfl)⟩) ⟨jw_blind, va_recv hK hP (ci := 13) (q0 := 0) rfl rfl, fun U hU hW => ⟨rfl, jw_of hU hW hP hK hD⟩⟩ rfl rfl hl.1 rfl (lv_room (Nat.le_of_ble_eq_true rfl)) dX13_moreWords_16 ⟨(Nat.le_of_ble_eq_true rfl), (Nat.le_of_ble_eq_true rfl)⟩) hD hS hA (fun u_51 H locs w_45 hP hK hD hS => ?_)
    obtain ⟨g_49, a_50⟩ := u_51
    obtain ⟨hI, hfr_52, hfr_53, h_47, h_48⟩ := w_45
    have hP : va_P (dC, dI) vwCl (mG ad ca g_49 a_50) H := hP
    have hD : va_D A (mG ad ca g_49 a_50) := hD
    have hfA : ∀ j, j ∉ ([2, 3, 4, 5, 7] : List Nat) → g_49 j = g j := fun j h => (hfr_52 j (fun q => h (by first | exact q | (simp only [List.mem_cons, List.not_mem_nil, or_false] at q ⊢ <;> omega)))).trans (hfA j h)
    have b_55 : g_49 1 = g 1 := hfA 1 (by decide)
    have b_56 : g_49 8 = g 8 := hfA 8 (by decide)
    have b_57 : g_49 9 = g 9 := hfA 9 (by decide)
    have b_58 : g_49 12 = g 12 := hfA 12 (by decide)
    have b_59 : g_49 15 = g 15 := hfA 15 (by decide)
    have b_60 := hfr_52 2 (by decide)
    have b_61 := hfr_52 3 (by decide)
    have b_62 := hfr_52 4 (by decide)
    have b_63 := hfr_52 5 (by decide)
    have haA : ∀ j, j ∉ ([2] : List Nat) → a_50 j = a j := fun j h => (hfr_53 j (fun q => h (by first | exact q | (simp only [List.mem_cons, List.not_mem_nil, or_false] at q ⊢ <;> omega)))).trans (haA j h)
    have h_47 : g_49 7 = g_17 7 + 1 := h_47
    have h_48 : a_50 2 = up (a_18 2) (g_17 7) p3 := h_48
    have b_64 : g_49 1 = g_17 1 := hfr_52 1 (by decide)
    have b_65 : g_49 2 = g_17 2 := hfr_52 2 (by decide)
    have b_66 : g_49 3 = g_17 3 := hfr_52 3 (by decide)
    have b_67 : g_49 4 = g_17 4 := hfr_52 4 (by decide)
    have b_68 : g_49 8 = g_17 8 := hfr_52 8 (by decide)
    have b_69 : g_49 9 = g_17 9 := hfr_52 9 (by decide)
    have b_70 : g_49 12 = g_17 12 := hfr_52 12 (by decide)
    have b_71 : g_49 15 = g_17 15 := hfr_52 15 (by decide)
    have b_72 : g_49 5 = g_17 5 := hfr_52 5 (by decide)
    have t_73 : a_50 2 = up (a 2) (g 7) p3 := h_48.trans (up_c t_35 (by omega) (by omega))
    have t_74 : a_50 3 = a 3 := (hfr_53 3 (by decide)).trans t_36
    have t_75 : a_50 4 = a 4 := (hfr_53 4 (by decide)).trans t_37
    have t_76 : a_50 5 = a 5 := (hfr_53 5 (by decide)).trans t_38
    have t_77 : a_50 6 = a 6 := (hfr_53 6 (by decide)).trans t_39
    have t_78 : a_50 7 = a 7 := (hfr_53 7 (by decide)).trans t_40
    have t_79 : a_50 8 = a 8 := (hfr_53 8 (by decide)).trans t_41
    have b_80 : 0 ≤ g_49 7 ∧ g_49 7 ≤ 1200 := hI.1 7
    refine lv_aload_n hx hb dX13_moreWords_19 rfl (lv_at hl 0 rfl) ?_
    refine lv_sipush (v := iI 1000) hx hb dX13_moreWords_20 rfl ?_
    refine lv_iload_n hx hb dX13_moreWords_23 rfl (lv_at hl 2 rfl) ?_
    refine xr_add hx hb dX13_moreWords_24 ?_
    refine xr_kept (fun z_81 h_82 h_83 => ?_)
    refine jcg_v (va_runV (As := [.int (iI z_81)]) (rest := []) ⟨hx, hb, hml, hown, hts⟩ (sX13_push l dC dI _ ad ca g_49 a_50 z_81 hI (by omega) (by omega)) (cwV 1 hts (jgoodV m_225 m_452 m_453 m_503 m_194) rfl rfl rfl (by decide +kernel) ⟨(Nat.le_of_ble_eq_true rfl), (Nat.le_of_ble_eq_true rfl)⟩) ⟨jw_blind, va_recv hK hP (ci := 13) (q0 := 0) rfl rfl, fun U hU hW => ⟨rfl, jw_of hU hW hP hK hD⟩⟩ rfl rfl hl.1 rfl (lv_room (Nat.le_of_ble_eq_true rfl)) dX13_moreWords_25 ⟨(Nat.le_of_ble_eq_true rfl), (Nat.le_of_ble_eq_true rfl)⟩) hD hS hA (fun u_91 H locs w_85 hP hK hD hS => ?_)
    obtain ⟨g_89, a_90⟩ := u_91
    obtain ⟨hI, hfr_92, hfr_93, h_87, h_88⟩ := w_85
    have hP : va_P (dC, dI) vwCl (mG ad ca g_89 a_90) H := hP
    have hD : va_D A (mG ad ca g_89 a_90) := hD
    have hfA : ∀ j, j ∉ ([2, 3, 4, 5, 7] : List Nat) → g_89 j = g j := fun j h => (hfr_92 j (fun q => h (by first | exact q | (simp only [List.mem_cons, List.not_mem_nil, or_false] at q ⊢ <;> omega)))).trans (hfA j h)
    have b_95 : g_89 1 = g 1 := hfA 1 (by decide)
    have b_96 : g_89 8 = g 8 := hfA 8 (by decide)
    have b_97 : g_89 9 = g 9 := hfA 9 (by decide)
    have b_98 : g_89 12 = g 12 := hfA 12 (by decide)
    have b_99 : g_89 15 = g 15 := hfA 15 (by decide)
    have b_100 := hfr_92 2 (by decide)
    have b_101 := hfr_92 3 (by decide)
    have b_102 := hfr_92 4 (by decide)
    have b_103 := hfr_92 5 (by decide)
    have haA : ∀ j, j ∉ ([2] : List Nat) → a_90 j = a j := fun j h => (hfr_93 j (fun q => h (by first | exact q | (simp only [List.mem_cons, List.not_mem_nil, or_false] at q ⊢ <;> omega)))).trans (haA j h)
    have h_87 : g_89 7 = g_49 7 + 1 := h_87
    have h_88 : a_90 2 = up (a_50 2) (g_49 7) z_81 := h_88
    have b_104 : g_89 1 = g_49 1 := hfr_92 1 (by decide)
    have b_105 : g_89 2 = g_49 2 := hfr_92 2 (by decide)
    have b_106 : g_89 3 = g_49 3 := hfr_92 3 (by decide)
    have b_107 : g_89 4 = g_49 4 := hfr_92 4 (by decide)
    have b_108 : g_89 8 = g_49 8 := hfr_92 8 (by decide)
    have b_109 : g_89 9 = g_49 9 := hfr_92 9 (by decide)
    have b_110 : g_89 12 = g_49 12 := hfr_92 12 (by decide)
    have b_111 : g_89 15 = g_49 15 := hfr_92 15 (by decide)
    have b_112 : g_89 5 = g_49 5 := hfr_92 5 (by decide)
    have t_113 : a_90 2 = up (up (a 2) (g 7) p3) ((g 7 + 1)) z_81 := h_88.trans (up_c t_73 (by omega) (by omega))
    have t_114 : a_90 3 = a 3 := (hfr_93 3 (by decide)).trans t_74
    have t_115 : a_90 4 = a 4 := (hfr_93 4 (by decide)).trans t_75
    have t_116 : a_90 5 = a 5 := (hfr_93 5 (by decide)).trans t_76
    have t_117 : a_90 6 = a 6 := (hfr_93 6 (by decide)).trans t_77
    have t_118 : a_90 7 = a 7 := (hfr_93 7 (by decide)).trans t_78
    have t_119 : a_90 8 = a 8 := (hfr_93 8 (by decide)).trans t_79
    have b_120 : 0 ≤ g_89 7 ∧ g_89 7 ≤ 1200 := hI.1 7
    refine lv_aload_n hx hb dX13_moreWords_28 rfl (lv_at hl 0 rfl) ?_
    refine lv_iload hx hb dX13_moreWords_29 (lv_at hl 4 rfl) ?_
    refine jcg_v (va_runV (As := [.int (iI p4)]) (rest := []) ⟨hx, hb, hml, hown, hts⟩ (sX13_push l dC dI _ ad ca g_89 a_90 p4 hI (by omega) (by omega)) (cwV 1 hts (jgoodV m_225 m_452 m_453 m_503 m_194) rfl rfl rfl (by decide +kernel) ⟨(Nat.le_of_ble_eq_true rfl), (Nat.le_of_ble_eq_true rfl)⟩) ⟨jw_blind, va_recv hK hP (ci := 13) (q0 := 0) rfl rfl, fun U hU hW => ⟨rfl, jw_of hU hW hP hK hD⟩⟩ rfl rfl hl.1 rfl (lv_room (Nat.le_of_ble_eq_true rfl)) dX13_moreWords_31 ⟨(Nat.le_of_ble_eq_true rfl), (Nat.le_of_ble_eq_true rfl)⟩) hD hS hA (fun u_128 H locs w_122 hP hK hD hS => ?_)
    obtain ⟨g_126, a_127⟩ := u_128
    obtain ⟨hI, hfr_129, hfr_130, h_124, h_125⟩ := w_122
    have hP : va_P (dC, dI) vwCl (mG ad ca g_126 a_127) H := hP
    have hD : va_D A (mG ad ca g_126 a_127) := hD
    have hfA : ∀ j, j ∉ ([2, 3, 4, 5, 7] : List Nat) → g_126 j = g j := fun j h => (hfr_129 j (fun q => h (by first | exact q | (simp only [List.mem_cons, List.not_mem_nil, or_false] at q ⊢ <;> omega)))).trans (hfA j h)
    have b_132 : g_126 1 = g 1 := hfA 1 (by decide)
    have b_133 : g_126 8 = g 8 := hfA 8 (by decide)
    have b_134 : g_126 9 = g 9 := hfA 9 (by decide)
    have b_135 : g_126 12 = g 12 := hfA 12 (by decide)
    have b_136 : g_126 15 = g 15 := hfA 15 (by decide)
    have b_137 := hfr_129 2 (by decide)
    have b_138 := hfr_129 3 (by decide)
    have b_139 := hfr_129 4 (by decide)
    have b_140 := hfr_129 5 (by decide)
    have haA : ∀ j, j ∉ ([2] : List Nat) → a_127 j = a j := fun j h => (hfr_130 j (fun q => h (by first | exact q | (simp only [List.mem_cons, List.not_mem_nil, or_false] at q ⊢ <;> omega)))).trans (haA j h)
    have h_124 : g_126 7 = g_89 7 + 1 := h_124
    have h_125 : a_127 2 = up (a_90 2) (g_89 7) p4 := h_125
    have b_141 : g_126 1 = g_89 1 := hfr_129 1 (by decide)
    have b_142 : g_126 2 = g_89 2 := hfr_129 2 (by decide)
    have b_143 : g_126 3 = g_89 3 := hfr_129 3 (by decide)
    have b_144 : g_126 4 = g_89 4 := hfr_129 4 (by decide)
    have b_145 : g_126 8 = g_89 8 := hfr_129 8 (by decide)
    have b_146 : g_126 9 = g_89 9 := hfr_129 9 (by decide)
    have b_147 : g_126 12 = g_89 12 := hfr_129 12 (by decide)
    have b_148 : g_126 15 = g_89 15 := hfr_129 15 (by decide)
    have b_149 : g_126 5 = g_89 5 := hfr_129 5 (by decide)
    have t_150 : a_127 2 = up (up (up (a 2) (g 7) p3) ((g 7 + 1)) z_81) (((g 7 + 1) + 1)) p4 := h_125.trans (up_c t_113 (by omega) (by omega))
    have t_151 : a_127 3 = a 3 := (hfr_130 3 (by decide)).trans t_114
    have t_152 : a_127 4 = a 4 := (hfr_130 4 (by decide)).trans t_115
    have t_153 : a_127 5 = a 5 := (hfr_130 5 (by decide)).trans t_116
    have t_154 : a_127 6 = a 6 := (hfr_130 6 (by decide)).trans t_117
    have t_155 : a_127 7 = a 7 := (hfr_130 7 (by decide)).trans t_118
    have t_156 : a_127 8 = a 8 := (hfr_130 8 (by decide)).trans t_119
    have b_157 : 0 ≤ g_126 7 ∧ g_126 7 ≤ 1200 := hI.1 7
    refine lv_iconst (v := iI 1) hx hb dX13_moreWords_34 rfl ?_
    rw [← hQ]
    exact W.zret (v := iI 1) (ty := .boolean) hx hb hr (nb_bool (by omega) (by omega)) (fun t ht hW => ⟨⟨iI 1, (g_126, a_127), rfl, ⟨1, rfl, hI, hfA, haA, by omega, by show 1 = 0 ∨ (rPn g_126 a_127 (g_126 7) ∧ mz g_126 a_127 (g_126 7) < mz g a (g 7 + 1)); first | exact Or.inl rfl | (rcases k1 with ⟨-, -, -, -, q⟩ | ⟨-, -, -, -, q⟩; exact Or.inr (st_7n hrP1 (by omega) q ⟨by omega, by omega, by omega, by omega, t_151, t_152, t_153, t_154, t_155, t_156⟩ (by omega) (by omega) (by omega) (by omega) (by omega) t_150); exact Or.inr (st_9n hrP1 (by omega) q ⟨by omega, by omega, by omega, by omega, t_151, t_152, t_153, t_154, t_155, t_156⟩ (by omega) (by omega) (by omega) (by omega) (by omega) t_150)) | (rcases k1 with ⟨-, q2, q3, q4, q⟩ | ⟨-, q2, q3, q4, q⟩; exact Or.inr (st_7m hrP1 (by omega) q ⟨by omega, by omega, by omega, by omega, t_151, t_152, t_153, t_154, t_155, t_156⟩ (by omega) (by omega) (by omega) (by omega) ⟨by omega, by omega, by omega⟩ ((t_150).trans (up_c (up_c (up_c rfl rfl q3) rfl (by omega)) (by omega) q4))); exact Or.inr (st_9m hrP1 (by omega) q ⟨by omega, by omega, by omega, by omega, t_151, t_152, t_153, t_154, t_155, t_156⟩ (by omega) (by omega) (by omega) (by omega) ⟨by omega, by omega, by omega⟩ ((t_150).trans (up_c (up_c (up_c rfl rfl q3) rfl (by omega)) (by omega) q4)))), by show tkR tT tN g_126 a_127; first | assumption | exact tkR_t (by omega) (by omega) (by omega) (by omega) h_16 | exact tkR_t (by omega) (by omega) (by omega) (by omega) hrTk, by show nst tT tN g a g_126 a_127 1; first | (rcases k1 with ⟨q1, q2, q3, q4, q⟩ | ⟨q1, q2, q3, q4, q⟩; exact nst_y (by omega) (by omega) (nt_7n hrTk (by omega) (by omega) q (by omega) (by omega) (by omega) t_153 (by omega) t_150); exact nst_y (by omega) (by omega) (nt_9n hrTk (by omega) (by omega) q (by omega) (by omega) (by omega) t_153 (by omega) t_150)) | (rcases k1 with ⟨q1, q2, q3, q4, q⟩ | ⟨q1, q2, q3, q4, q⟩; exact nst_y (by omega) (by omega) (nt_7m hrTk (by omega) (by omega) q (by omega) (by omega) (by omega) t_153 (by omega) ((t_150).trans (up_c (up_c (up_c rfl rfl q3) rfl (by omega)) (by omega) q4))); exact nst_y (by omega) (by omega) (nt_9m hrTk (by omega) (by omega) q (by omega) (by omega) (by omega) t_153 (by omega) ((t_150).trans (up_c (up_c (up_c rfl rfl q3) rfl (by omega)) (by omega) q4))))⟩, by rw [ht]; exact hP, va_K.moved hW.alike hK, hD⟩, hS.F ht⟩) hS.2.2 dX13_moreWords_35
  · refine lv_iconst (v := iI 1) hx hb dX13_moreWords_8 rfl ?_
    rw [← hQ]
    exact W.zret (v := iI 1) (ty := .boolean) hx hb hr (nb_bool (by omega) (by omega)) (fun t ht hW => ⟨⟨iI 1, (g, a), rfl, ⟨1, rfl, hI, hfA, haA, by omega, by show 1 = 0 ∨ (rPn g a (g 7) ∧ mz g a (g 7) < mz g a (g 7 + 1)); first | exact Or.inl rfl | (rcases k1 with ⟨-, -, -, -, q⟩ | ⟨-, -, -, -, q⟩; exact Or.inr (st_7n hrP1 (by omega) q ⟨by omega, by omega, by omega, by omega, rfl, rfl, rfl, rfl, rfl, rfl⟩ (by omega) (by omega) (by omega) (by omega) (by omega) rfl); exact Or.inr (st_9n hrP1 (by omega) q ⟨by omega, by omega, by omega, by omega, rfl, rfl, rfl, rfl, rfl, rfl⟩ (by omega) (by omega) (by omega) (by omega) (by omega) rfl)) | (rcases k1 with ⟨-, q2, q3, q4, q⟩ | ⟨-, q2, q3, q4, q⟩; exact Or.inr (st_7m hrP1 (by omega) q ⟨by omega, by omega, by omega, by omega, rfl, rfl, rfl, rfl, rfl, rfl⟩ (by omega) (by omega) (by omega) (by omega) ⟨by omega, by omega, by omega⟩ ((rfl).trans (up_c (up_c (up_c rfl rfl q3) rfl (by omega)) (by omega) q4))); exact Or.inr (st_9m hrP1 (by omega) q ⟨by omega, by omega, by omega, by omega, rfl, rfl, rfl, rfl, rfl, rfl⟩ (by omega) (by omega) (by omega) (by omega) ⟨by omega, by omega, by omega⟩ ((rfl).trans (up_c (up_c (up_c rfl rfl q3) rfl (by omega)) (by omega) q4)))), by show tkR tT tN g a; first | assumption | exact tkR_t (by omega) (by omega) (by omega) (by omega) _ | exact tkR_t (by omega) (by omega) (by omega) (by omega) hrTk, by show nst tT tN g a g a 1; first | (rcases k1 with ⟨q1, q2, q3, q4, q⟩ | ⟨q1, q2, q3, q4, q⟩; exact nst_y (by omega) (by omega) (nt_7n hrTk (by omega) (by omega) q (by omega) (by omega) (by omega) rfl (by omega) rfl); exact nst_y (by omega) (by omega) (nt_9n hrTk (by omega) (by omega) q (by omega) (by omega) (by omega) rfl (by omega) rfl)) | (rcases k1 with ⟨q1, q2, q3, q4, q⟩ | ⟨q1, q2, q3, q4, q⟩; exact nst_y (by omega) (by omega) (nt_7m hrTk (by omega) (by omega) q (by omega) (by omega) (by omega) rfl (by omega) ((rfl).trans (up_c (up_c (up_c rfl rfl q3) rfl (by omega)) (by omega) q4))); exact nst_y (by omega) (by omega) (nt_9m hrTk (by omega) (by omega) q (by omega) (by omega) (by omega) rfl (by omega) ((rfl).trans (up_c (up_c (up_c rfl rfl q3) rfl (by omega)) (by omega) q4))))⟩, by rw [ht]; exact hP, va_K.moved hW.alike hK, hD⟩, hS.F ht⟩) hS.2.2 dX13_moreWords_9
set_option maxHeartbeats 2000000 in
set_option maxRecDepth 100000 in
theorem sX13_factor (l : Launch) (dC : Nat → ClassId) (dI : Nat → Nat → Nat) (sz : Nat) (ad : Nat → Nat) (ca : Nat → ClassId) (sK sV : Nat → Nat) (g : Nat → Int) (a : Nat → Int → Int) (tT : Int → Int) (tN : Int) (hI : mI g a) (k1 : a 2 (g 7) = 5) (hrP1 : rP1 g a) (hrTx : txR tT tN g a) (hrTk : tkR tT tN g a) : Met l yX13_factor (jk yX13_factor cX13_factor 1 (some .boolean)) ({ frames := 7, cells := 0, slots := 0, locals := 153 }) (va_Pc [.ref (ad 0)] (mP (dC, dI) (mG ad ca g a) (mT ca) sK sV sz)) (va_Qi (fun (r : Int32) (u : (Nat → Int) × (Nat → Int → Int)) => ∃ z : Int, r = iI z ∧ (mI u.1 u.2) ∧ (∀ j, j ∉ ([2, 3, 4, 5, 7, 8, 12] : List Nat) → u.1 j = g j) ∧ (∀ j, j ∉ ([2, 3, 4] : List Nat) → u.2 j = a j) ∧ (0 ≤ z ∧ z ≤ 1) ∧ (z = 0 ∨ (rPn u.1 u.2 (u.1 7) ∧ mz u.1 u.2 (u.1 7) < mz g a (g 7 + 1))) ∧ (tkR tT tN u.1 u.2) ∧ (nst tT tN g a u.1 u.2 z)) (fun u t => va_P (dC, dI) vwCl (mG ad ca u.1 u.2) t.heap ∧ va_K (dC, dI) vwCl (mT ca) t ∧ va_D (va_A (mG ad ca g a) sz) (mG ad ca u.1 u.2)) (va_A (mG ad ca g a) sz)) 0 0 (va_A (mG ad ca g a) sz) := by
  refine Met.ofW (cc := cX13_factor) (maxL := 1) (ret := (some .boolean)) (by decide) rfl ?_
  intro p e s m args below meth c s₁ B hml hv
  obtain ⟨rfl, ⟨hsz, hP, hK, hD0⟩, hX0⟩ := hv
  have hx := B.exec
  have hb := B.bytes
  have hr := B.returns
  have hts := atoms_spec (ws := (jk yX13_factor cX13_factor 1 (some .boolean))) B.pre
  have hj : ∀ w ∈ jw, w.before ([.ref (ad 0)] : List Value).toArray s = true := fun w h => hts w (jm h)
  have hown : s.vm.findClass RX13 = some m.cls := findClass_of_methodNamed B.named
  subst hsz
  have hD := hD0.self (sz := s.heap.size)
  have hXs := hX0
  generalize hAe : (va_A (mG ad ca g a) s.heap.size) = A at hD hXs ⊢
  have hA : ∀ q : Nat, s.heap.size ≤ q → A q := fun q h => by rw [← hAe]; exact Or.inr h
  have hS : va_S A s.heap s.heap [] := va_S.rf
  have hP : va_P (dC, dI) vwCl (mG ad ca g a) s.heap := hP
  have hfA : ∀ j, j ∉ ([2, 3, 4, 5, 7, 8, 12] : List Nat) → g j = g j := fun _ _ => rfl
  have haA : ∀ j, j ∉ ([2, 3, 4] : List Nat) → a j = a j := fun _ _ => rfl
  have hl := lv_entry ([.ref (ad 0)]) (n := 1) (Nat.le_of_ble_eq_true rfl)
  rw [lg_entry_eq]
  generalize (lg_sl ([.ref (ad 0)]) ++ List.replicate (1 - (lg_sl ([.ref (ad 0)])).length) Slot.unset).toArray = ls at hl ⊢
  have hl : lv_has ls 1 [(0, .ref (ad 0))] := hl
  generalize hQ : MQ below (va_Qi (fun (r : Int32) (u : (Nat → Int) × (Nat → Int → Int)) => ∃ z : Int, r = iI z ∧ (mI u.1 u.2) ∧ (∀ j, j ∉ ([2, 3, 4, 5, 7, 8, 12] : List Nat) → u.1 j = g j) ∧ (∀ j, j ∉ ([2, 3, 4] : List Nat) → u.2 j = a j) ∧ (0 ≤ z ∧ z ≤ 1) ∧ (z = 0 ∨ (rPn u.1 u.2 (u.1 7) ∧ mz u.1 u.2 (u.1 7) < mz g a (g 7 + 1))) ∧ (tkR tT tN u.1 u.2) ∧ (nst tT tN g a u.1 u.2 z)) (fun u t => va_P (dC, dI) vwCl (mG ad ca u.1 u.2) t.heap ∧ va_K (dC, dI) vwCl (mT ca) t ∧ va_D A (mG ad ca u.1 u.2)) A) ([.ref (ad 0)] : List Value).toArray s 0 0 A = Q
  suffices ST : ∀ (H : Heap) (locs : List Loc), va_P (dC, dI) vwCl (mG ad ca g a) H → va_S A s.heap H locs → W p l e ({ frames := 7, cells := 0, slots := 0, locals := 153 }) s m ([.ref (ad 0)] : List Value).toArray below meth c H locs 0 0 Q (F0 m 0 ls []) from ST _ _ hP hS
  clear hP hS
  intro H locs hP hS
  obtain ⟨bb1, bb2, bb3, bb4, bb5, bb6⟩ := bd_1 hrP1
  have bb7 := tkk_b (g 3)
  have b7_0 : 0 ≤ g 7 ∧ g 7 ≤ 1200 := hI.1 7
  have b1_0 : 0 ≤ g 1 ∧ g 1 ≤ 600 := hI.1 1
  have b2_0 : 0 ≤ g 2 ∧ g 2 ≤ 600 := hI.1 2
  refine lv_aload_n hx hb dX13_factor_0 rfl (lv_at hl 0 rfl) ?_
  refine gf_token hx hb hj hown hK hP hI dX13_factor_1 (fun h_1 => ?_)
  refine lv_iconst (v := iI 1) hx hb dX13_factor_4 rfl ?_
  refine xr_icmp_ne (tgt := 34) hx hb dX13_factor_5 (by decide) (by omega) (by omega) (fun h_2 => ?_) (fun h_2 => ?_)
  · refine lv_aload_n hx hb dX13_factor_34 rfl (lv_at hl 0 rfl) ?_
    refine gf_token hx hb hj hown hK hP hI dX13_factor_35 (fun h_3 => ?_)
    refine lv_iconst (v := iI 2) hx hb dX13_factor_38 rfl ?_
    have J73 : ∀ (H : Heap) (locs : List Loc) (ls : Array Slot), (g 3 ≠ 2 ∨ g 5 < 16 ∨ 24 < g 5) → va_P (dC, dI) vwCl (mG ad ca g a) H → va_D A (mG ad ca g a) → va_S A s.heap H locs → lv_has ls 1 [(0, .ref (ad 0))] → W p l e ({ frames := 7, cells := 0, slots := 0, locals := 153 }) s m ([.ref (ad 0)] : List Value).toArray below meth c H locs 0 0 Q (F0 m 73 ls []) := by
      intro H locs ls h_4 hP hD hS hl
      refine lv_aload_n hx hb dX13_factor_73 rfl (lv_at hl 0 rfl) ?_
      refine lv_bipush (v := iI 40) hx hb dX13_factor_74 rfl ?_
      refine jc_i (va_runV (As := [.int (iI 40)]) (rest := []) ⟨hx, hb, hml, hown, hts⟩ (sX13_isSign l dC dI _ ad ca g a 40 hI (by omega)) (cwV 1 hts (jgoodV m_227 m_389 m_390 m_503 m_161) rfl rfl rfl (by decide +kernel) ⟨(Nat.le_of_ble_eq_true rfl), (Nat.le_of_ble_eq_true rfl)⟩) ⟨jw_blind, va_recv hK hP (ci := 13) (q0 := 0) rfl rfl, fun U hU hW => ⟨rfl, jw_of hU hW hP hK hD⟩⟩ rfl rfl hl.1 rfl (lv_room (Nat.le_of_ble_eq_true rfl)) dX13_factor_76 ⟨(Nat.le_of_ble_eq_true rfl), (Nat.le_of_ble_eq_true rfl)⟩) hP hS hA (fun r_5 H locs w_6 hP hS => ?_)
      obtain ⟨z_7, rfl, h_8, h_9⟩ := w_6
      have b_10 : 0 ≤ g 3 ∧ g 3 ≤ 4 := hI.1 3
      refine xr_if_eq (tgt := 89) hx hb dX13_factor_79 (by decide) (by omega) (fun h_11 => ?_) (fun h_11 => ?_)
      · refine lv_iconst (v := iI 0) hx hb dX13_factor_89 rfl ?_
        rw [← hQ]
        exact W.zret (v := iI 0) (ty := .boolean) hx hb hr (nb_bool (by omega) (by omega)) (fun t ht hW => ⟨⟨iI 0, (g, a), rfl, ⟨0, rfl, hI, hfA, haA, by omega, by show 0 = 0 ∨ (rPn g a (g 7) ∧ mz g a (g 7) < mz g a (g 7 + 1)); first | exact Or.inl rfl | exact Or.inr (st_5e hrP1 (by omega) k1 (Or.inl rfl) (by omega) (by omega) (by omega) (by omega) rfl rfl rfl rfl rfl rfl (by omega) (by omega) (by omega) ⟨by omega, by omega, by omega⟩ rfl) | exact Or.inr (st_5e hrP1 (by omega) k1 (Or.inr ⟨rfl, by omega, by omega⟩) (by omega) (by omega) (by omega) (by omega) rfl rfl rfl rfl rfl rfl (by omega) (by omega) (by omega) ⟨by omega, by omega, by omega⟩ rfl) | exact Or.inr (st_5p hrP1 (by omega) k1 ⟨by omega, by omega, by omega, by omega, rfl, rfl, rfl, rfl, rfl, rfl⟩ (by omega) (by omega) (by omega) (by omega) ⟨by omega, by omega, by omega⟩ ((rfl).trans (up_c rfl (by omega) rfl))), by show tkR tT tN g a; first | assumption | exact tkR_t (by omega) (by omega) (by omega) (by omega) _ | exact tkR_t (by omega) (by omega) (by omega) (by omega) hrTk, by show nst tT tN g a g a 0; first | exact nst_n (by omega) (by omega) (nf_5 hrTk k1 (by omega) (by omega)) | exact nst_y (by omega) (by omega) (nt_5e hrTk (by omega) (by omega) k1 (by omega) (by omega) (by omega) rfl (by omega) rfl) | exact nst_y (by omega) (by omega) (nt_5p hrTk (by omega) (by omega) (by omega) k1 (by omega) (by omega) (by omega) rfl (by omega) ((rfl).trans (up_c rfl (by omega) rfl)))⟩, by rw [ht]; exact hP, va_K.moved hW.alike hK, hD⟩, hS.F ht⟩) hS.2.2 dX13_factor_90
      · refine lv_aload_n hx hb dX13_factor_82 rfl (lv_at hl 0 rfl) ?_
        refine jcg_i (va_runV (As := []) (rest := []) ⟨hx, hb, hml, hown, hts⟩ (sX13_deeper l dC dI _ ad ca g a  hI (by omega) (by omega) (by omega)) (cwV 0 hts (jgoodV m_240 m_318 m_319 m_503 m_124) rfl rfl rfl (by decide +kernel) ⟨(Nat.le_of_ble_eq_true rfl), (Nat.le_of_ble_eq_true rfl)⟩) ⟨jw_blind, va_recv hK hP (ci := 13) (q0 := 0) rfl rfl, fun U hU hW => ⟨rfl, jw_of hU hW hP hK hD⟩⟩ rfl rfl hl.1 rfl (lv_room (Nat.le_of_ble_eq_true rfl)) dX13_factor_83 ⟨(Nat.le_of_ble_eq_true rfl), (Nat.le_of_ble_eq_true rfl)⟩) hD hS hA (fun r_12 u_20 H locs w_13 hP hK hD hS => ?_)
        obtain ⟨g_18, a_19⟩ := u_20
        obtain ⟨z_14, rfl, hI, hfr_21, hfr_22, h_15, h_16, h_17⟩ := w_13
        have hP : va_P (dC, dI) vwCl (mG ad ca g_18 a_19) H := hP
        have hD : va_D A (mG ad ca g_18 a_19) := hD
        have hfA : ∀ j, j ∉ ([2, 3, 4, 5, 7, 8, 12] : List Nat) → g_18 j = g j := fun j h => (hfr_21 j (fun q => h (by first | exact q | (simp only [List.mem_cons, List.not_mem_nil, or_false] at q ⊢ <;> omega)))).trans (hfA j h)
        have b_24 : g_18 1 = g 1 := hfA 1 (by decide)
        have b_25 : g_18 9 = g 9 := hfA 9 (by decide)
        have b_26 : g_18 15 = g 15 := hfA 15 (by decide)
        have b_27 := hfr_21 2 (by decide)
        have b_28 := hfr_21 3 (by decide)
        have b_29 := hfr_21 4 (by decide)
        have b_30 := hfr_21 5 (by decide)
        have b_31 := hfr_21 12 (by decide)
        have haA : ∀ j, j ∉ ([2, 3, 4] : List Nat) → a_19 j = a j := fun j h => (hfr_22 j (fun q => h (by first | exact q | (simp only [List.mem_cons, List.not_mem_nil, or_false] at q ⊢ <;> omega)))).trans (haA j h)
        have h_16 : (z_14 = 0 ∧ g 8 = 8 ∧ g_18 7 = g 7 ∧ g_18 8 = g 8) ∨ (z_14 = 1 ∧ g 8 ≠ 8 ∧ g_18 7 = g 7 + 1 ∧ g_18 8 = g 8 + 1) := h_16
        have h_17 : z_14 = 0 ∨ a_19 2 = up (a 2) (g 7) 12 := h_17
        have b_32 : g_18 1 = g 1 := hfr_21 1 (by decide)
        have b_33 : g_18 2 = g 2 := hfr_21 2 (by decide)
        have b_34 : g_18 3 = g 3 := hfr_21 3 (by decide)
        have b_35 : g_18 4 = g 4 := hfr_21 4 (by decide)
        have b_36 : g_18 9 = g 9 := hfr_21 9 (by decide)
        have b_37 : g_18 12 = g 12 := hfr_21 12 (by decide)
        have b_38 : g_18 15 = g 15 := hfr_21 15 (by decide)
        have b_39 : g_18 5 = g 5 := hfr_21 5 (by decide)
        have t_40 : a_19 3 = a 3 := (hfr_22 3 (by decide)).trans rfl
        have t_41 : a_19 4 = a 4 := (hfr_22 4 (by decide)).trans rfl
        have t_42 : a_19 5 = a 5 := (hfr_22 5 (by decide)).trans rfl
        have t_43 : a_19 6 = a 6 := (hfr_22 6 (by decide)).trans rfl
        have t_44 : a_19 7 = a 7 := (hfr_22 7 (by decide)).trans rfl
        have t_45 : a_19 8 = a 8 := (hfr_22 8 (by decide)).trans rfl
        have b_46 : 0 ≤ g_18 7 ∧ g_18 7 ≤ 1200 := hI.1 7
        refine xr_if_ne (tgt := 91) hx hb dX13_factor_86 (by decide) (by omega) (fun h_47 => ?_) (fun h_47 => ?_)
        · have t_48 : a_19 2 = up (a 2) (g 7) 12 := ((h_17).resolve_left (by omega)).trans (up_c rfl (by omega) (by omega))
          refine lv_aload_n hx hb dX13_factor_91 rfl (lv_at hl 0 rfl) ?_
          refine lv_sipush (v := iI 141) hx hb dX13_factor_92 rfl ?_
          refine jcg_v (va_runV (As := [.int (iI 141)]) (rest := []) ⟨hx, hb, hml, hown, hts⟩ (sX13_push l dC dI _ ad ca g_18 a_19 141 hI (by omega) (by omega)) (cwV 1 hts (jgoodV m_225 m_452 m_453 m_503 m_194) rfl rfl rfl (by decide +kernel) ⟨(Nat.le_of_ble_eq_true rfl), (Nat.le_of_ble_eq_true rfl)⟩) ⟨jw_blind, va_recv hK hP (ci := 13) (q0 := 0) rfl rfl, fun U hU hW => ⟨rfl, jw_of hU hW hP hK hD⟩⟩ rfl rfl hl.1 rfl (lv_room (Nat.le_of_ble_eq_true rfl)) dX13_factor_95 ⟨(Nat.le_of_ble_eq_true rfl), (Nat.le_of_ble_eq_true rfl)⟩) hD hS hA (fun u_56 H locs w_50 hP hK hD hS => ?_)
          obtain ⟨g_54, a_55⟩ := u_56
          obtain ⟨hI, hfr_57, hfr_58, h_52, h_53⟩ := w_50
          have hP : va_P (dC, dI) vwCl (mG ad ca g_54 a_55) H := hP
          have hD : va_D A (mG ad ca g_54 a_55) := hD
          have hfA : ∀ j, j ∉ ([2, 3, 4, 5, 7, 8, 12] : List Nat) → g_54 j = g j := fun j h => (hfr_57 j (fun q => h (by first | exact q | (simp only [List.mem_cons, List.not_mem_nil, or_false] at q ⊢ <;> omega)))).trans (hfA j h)
          have b_60 : g_54 1 = g 1 := hfA 1 (by decide)
          have b_61 : g_54 9 = g 9 := hfA 9 (by decide)
          have b_62 : g_54 15 = g 15 := hfA 15 (by decide)
          have b_63 := hfr_57 2 (by decide)
          have b_64 := hfr_57 3 (by decide)
          have b_65 := hfr_57 4 (by decide)
          have b_66 := hfr_57 5 (by decide)
          have b_67 := hfr_57 8 (by decide)
          have b_68 := hfr_57 12 (by decide)
          have haA : ∀ j, j ∉ ([2, 3, 4] : List Nat) → a_55 j = a j := fun j h => (hfr_58 j (fun q => h (by first | exact q | (simp only [List.mem_cons, List.not_mem_nil, or_false] at q ⊢ <;> omega)))).trans (haA j h)
          have h_52 : g_54 7 = g_18 7 + 1 := h_52
          have h_53 : a_55 2 = up (a_19 2) (g_18 7) 141 := h_53
          have b_69 : g_54 1 = g_18 1 := hfr_57 1 (by decide)
          have b_70 : g_54 2 = g_18 2 := hfr_57 2 (by decide)
          have b_71 : g_54 3 = g_18 3 := hfr_57 3 (by decide)
          have b_72 : g_54 4 = g_18 4 := hfr_57 4 (by decide)
          have b_73 : g_54 8 = g_18 8 := hfr_57 8 (by decide)
          have b_74 : g_54 9 = g_18 9 := hfr_57 9 (by decide)
          have b_75 : g_54 12 = g_18 12 := hfr_57 12 (by decide)
          have b_76 : g_54 15 = g_18 15 := hfr_57 15 (by decide)
          have b_77 : g_54 5 = g_18 5 := hfr_57 5 (by decide)
          have t_78 : a_55 2 = up (up (a 2) (g 7) 12) ((g 7 + 1)) 141 := h_53.trans (up_c t_48 (by omega) (by omega))
          have t_79 : a_55 3 = a 3 := (hfr_58 3 (by decide)).trans t_40
          have t_80 : a_55 4 = a 4 := (hfr_58 4 (by decide)).trans t_41
          have t_81 : a_55 5 = a 5 := (hfr_58 5 (by decide)).trans t_42
          have t_82 : a_55 6 = a 6 := (hfr_58 6 (by decide)).trans t_43
          have t_83 : a_55 7 = a 7 := (hfr_58 7 (by decide)).trans t_44
          have t_84 : a_55 8 = a 8 := (hfr_58 8 (by decide)).trans t_45
          have b_85 : 0 ≤ g_54 7 ∧ g_54 7 ≤ 1200 := hI.1 7
          refine lv_aload_n hx hb dX13_factor_98 rfl (lv_at hl 0 rfl) ?_
          refine lv_iconst (v := iI 1) hx hb dX13_factor_99 rfl ?_
          refine jcg_v (va_runV (As := [.int (iI 1)]) (rest := []) ⟨hx, hb, hml, hown, hts⟩ (sX13_push l dC dI _ ad ca g_54 a_55 1 hI (by omega) (by omega)) (cwV 1 hts (jgoodV m_225 m_452 m_453 m_503 m_194) rfl rfl rfl (by decide +kernel) ⟨(Nat.le_of_ble_eq_true rfl), (Nat.le_of_ble_eq_true rfl)⟩) ⟨jw_blind, va_recv hK hP (ci := 13) (q0 := 0) rfl rfl, fun U hU hW => ⟨rfl, jw_of hU hW hP hK hD⟩⟩ rfl rfl hl.1 rfl (lv_room (Nat.le_of_ble_eq_true rfl)) dX13_factor_100 ⟨(Nat.le_of_ble_eq_true rfl), (Nat.le_of_ble_eq_true rfl)⟩) hD hS hA (fun u_93 H locs w_87 hP hK hD hS => ?_)
          obtain ⟨g_91, a_92⟩ := u_93
          obtain ⟨hI, hfr_94, hfr_95, h_89, h_90⟩ := w_87
          have hP : va_P (dC, dI) vwCl (mG ad ca g_91 a_92) H := hP
          have hD : va_D A (mG ad ca g_91 a_92) := hD
          have hfA : ∀ j, j ∉ ([2, 3, 4, 5, 7, 8, 12] : List Nat) → g_91 j = g j := fun j h => (hfr_94 j (fun q => h (by first | exact q | (simp only [List.mem_cons, List.not_mem_nil, or_false] at q ⊢ <;> omega)))).trans (hfA j h)
          have b_97 : g_91 1 = g 1 := hfA 1 (by decide)
          have b_98 : g_91 9 = g 9 := hfA 9 (by decide)
          have b_99 : g_91 15 = g 15 := hfA 15 (by decide)
          have b_100 := hfr_94 2 (by decide)
          have b_101 := hfr_94 3 (by decide)
          have b_102 := hfr_94 4 (by decide)
          have b_103 := hfr_94 5 (by decide)
          have b_104 := hfr_94 8 (by decide)
          have b_105 := hfr_94 12 (by decide)
          have haA : ∀ j, j ∉ ([2, 3, 4] : List Nat) → a_92 j = a j := fun j h => (hfr_95 j (fun q => h (by first | exact q | (simp only [List.mem_cons, List.not_mem_nil, or_false] at q ⊢ <;> omega)))).trans (haA j h)
          have h_89 : g_91 7 = g_54 7 + 1 := h_89
          have h_90 : a_92 2 = up (a_55 2) (g_54 7) 1 := h_90
          have b_106 : g_91 1 = g_54 1 := hfr_94 1 (by decide)
          have b_107 : g_91 2 = g_54 2 := hfr_94 2 (by decide)
          have b_108 : g_91 3 = g_54 3 := hfr_94 3 (by decide)
          have b_109 : g_91 4 = g_54 4 := hfr_94 4 (by decide)
          have b_110 : g_91 8 = g_54 8 := hfr_94 8 (by decide)
          have b_111 : g_91 9 = g_54 9 := hfr_94 9 (by decide)
          have b_112 : g_91 12 = g_54 12 := hfr_94 12 (by decide)
          have b_113 : g_91 15 = g_54 15 := hfr_94 15 (by decide)
          have b_114 : g_91 5 = g_54 5 := hfr_94 5 (by decide)
          have t_115 : a_92 2 = up (up (up (a 2) (g 7) 12) ((g 7 + 1)) 141) (((g 7 + 1) + 1)) 1 := h_90.trans (up_c t_78 (by omega) (by omega))
          have t_116 : a_92 3 = a 3 := (hfr_95 3 (by decide)).trans t_79
          have t_117 : a_92 4 = a 4 := (hfr_95 4 (by decide)).trans t_80
          have t_118 : a_92 5 = a 5 := (hfr_95 5 (by decide)).trans t_81
          have t_119 : a_92 6 = a 6 := (hfr_95 6 (by decide)).trans t_82
          have t_120 : a_92 7 = a 7 := (hfr_95 7 (by decide)).trans t_83
          have t_121 : a_92 8 = a 8 := (hfr_95 8 (by decide)).trans t_84
          have b_122 : 0 ≤ g_91 7 ∧ g_91 7 ≤ 1200 := hI.1 7
          refine lv_aload_n hx hb dX13_factor_103 rfl (lv_at hl 0 rfl) ?_
          refine jcg_i (va_runV (As := []) (rest := []) ⟨hx, hb, hml, hown, hts⟩ (sX13_takes l dC dI _ ad ca sK sV g_91 a_92 tT tN  hI (by omega) (txR_t (hfA 1 (by decide)) (haA 1 (by decide)) hrTx)) (cwV 0 hts (jgoodV m_228 m_480 m_481 m_503 m_208) rfl rfl rfl (by decide +kernel) ⟨(Nat.le_of_ble_eq_true rfl), (Nat.le_of_ble_eq_true rfl)⟩) ⟨mP_blind, va_recv hK hP (ci := 13) (q0 := 0) rfl rfl, fun U hU hW => ⟨rfl, mP_of hU hW hP hK hD hXs hS (fun _ h => h) hA⟩⟩ rfl rfl hl.1 rfl (lv_room (Nat.le_of_ble_eq_true rfl)) dX13_factor_104 ⟨(Nat.le_of_ble_eq_true rfl), (Nat.le_of_ble_eq_true rfl)⟩) hD hS hA (fun r_123 u_136 H locs w_124 hP hK hD hS => ?_)
          obtain ⟨g_134, a_135⟩ := u_136
          obtain ⟨z_125, rfl, hI, hfr_137, hfr_138, h_126, h_127, h_128, h_129, h_130, h_131, h_132, h_133⟩ := w_124
          have hP : va_P (dC, dI) vwCl (mG ad ca g_134 a_135) H := hP
          have hD : va_D A (mG ad ca g_134 a_135) := hD
          have hfA : ∀ j, j ∉ ([2, 3, 4, 5, 7, 8, 12] : List Nat) → g_134 j = g j := fun j h => (hfr_137 j (fun q => h (by first | exact q | (simp only [List.mem_cons, List.not_mem_nil, or_false] at q ⊢ <;> omega)))).trans (hfA j h)
          have b_140 : g_134 1 = g 1 := hfA 1 (by decide)
          have b_141 : g_134 9 = g 9 := hfA 9 (by decide)
          have b_142 : g_134 15 = g 15 := hfA 15 (by decide)
          have b_143 := hfr_137 7 (by decide)
          have b_144 := hfr_137 8 (by decide)
          have b_145 := hfr_137 12 (by decide)
          have haA : ∀ j, j ∉ ([2, 3, 4] : List Nat) → a_135 j = a j := fun j h => (hfr_138 j (fun q => h (by first | exact q | (simp only [List.mem_cons, List.not_mem_nil, or_false] at q ⊢ <;> omega)))).trans (haA j h)
          have h_128 : g_91 2 ≤ g_134 2 := h_128
          have h_129 : g_134 2 ≤ g_91 1 := h_129
          have h_130 : g_134 3 = 0 ∨ g_91 2 + 1 ≤ g_134 2 := h_130
          have h_131 : g_134 4 ≤ g_134 2 := h_131
          have h_132 : g_134 4 = scn (bB tT) tN (g_91 2) := h_132
          have h_133 : tkR tT tN g_134 a_135 := h_133
          have b_146 : g_134 1 = g_91 1 := hfr_137 1 (by decide)
          have b_147 : g_134 7 = g_91 7 := hfr_137 7 (by decide)
          have b_148 : g_134 8 = g_91 8 := hfr_137 8 (by decide)
          have b_149 : g_134 9 = g_91 9 := hfr_137 9 (by decide)
          have b_150 : g_134 12 = g_91 12 := hfr_137 12 (by decide)
          have b_151 : g_134 15 = g_91 15 := hfr_137 15 (by decide)
          have t_152 : a_135 2 = up (up (up (a 2) (g 7) 12) ((g 7 + 1)) 141) (((g 7 + 1) + 1)) 1 := (hfr_138 2 (by decide)).trans t_115
          have t_153 : a_135 3 = a 3 := (hfr_138 3 (by decide)).trans t_116
          have t_154 : a_135 4 = a 4 := (hfr_138 4 (by decide)).trans t_117
          have t_155 : a_135 5 = a 5 := (hfr_138 5 (by decide)).trans t_118
          have t_156 : a_135 6 = a 6 := (hfr_138 6 (by decide)).trans t_119
          have t_157 : a_135 7 = a 7 := (hfr_138 7 (by decide)).trans t_120
          have t_158 : a_135 8 = a 8 := (hfr_138 8 (by decide)).trans t_121
          have b_159 : 0 ≤ g_134 1 ∧ g_134 1 ≤ 600 := hI.1 1
          have b_160 : 0 ≤ g_134 2 ∧ g_134 2 ≤ 600 := hI.1 2
          have e9 : g_134 4 = scn (bB tT) tN (g 2) := by rw [show g 2 = g_91 2 by omega]; exact h_132
          rw [← hQ]
          exact W.zret (v := iI z_125) (ty := .boolean) hx hb hr (nb_bool (by omega) (by omega)) (fun t ht hW => ⟨⟨iI z_125, (g_134, a_135), rfl, ⟨z_125, rfl, hI, hfA, haA, by omega, by show z_125 = 0 ∨ (rPn g_134 a_135 (g_134 7) ∧ mz g_134 a_135 (g_134 7) < mz g a (g 7 + 1)); first | exact Or.inl rfl | exact Or.inr (st_5e hrP1 (by omega) k1 (Or.inl rfl) (by omega) (by omega) (by omega) (by omega) t_153 t_154 t_155 t_156 t_157 t_158 (by omega) (by omega) (by omega) ⟨by omega, by omega, by omega⟩ t_152) | exact Or.inr (st_5e hrP1 (by omega) k1 (Or.inr ⟨rfl, by omega, by omega⟩) (by omega) (by omega) (by omega) (by omega) t_153 t_154 t_155 t_156 t_157 t_158 (by omega) (by omega) (by omega) ⟨by omega, by omega, by omega⟩ t_152) | exact Or.inr (st_5p hrP1 (by omega) k1 ⟨by omega, by omega, by omega, by omega, t_153, t_154, t_155, t_156, t_157, t_158⟩ (by omega) (by omega) (by omega) (by omega) ⟨by omega, by omega, by omega⟩ ((t_152).trans (up_c rfl (by omega) rfl))), by show tkR tT tN g_134 a_135; first | assumption | exact tkR_t (by omega) (by omega) (by omega) (by omega) h_133 | exact tkR_t (by omega) (by omega) (by omega) (by omega) hrTk, by show nst tT tN g a g_134 a_135 z_125; first | exact nst_n (by omega) (by omega) (nf_5 hrTk k1 (by omega) (by omega)) | exact nst_y (by omega) (by omega) (nt_5e hrTk (by omega) (by omega) k1 (by omega) (by omega) (by omega) t_155 (by omega) t_152) | exact nst_y (by omega) (by omega) (nt_5p hrTk (by omega) (by omega) (by omega) k1 (by omega) (by omega) (by omega) t_155 (by omega) ((t_152).trans (up_c rfl (by omega) rfl)))⟩, by rw [ht]; exact hP, va_K.moved hW.alike hK, hD⟩, hS.F ht⟩) hS.2.2 dX13_factor_107
        · refine lv_iconst (v := iI 0) hx hb dX13_factor_89 rfl ?_
          rw [← hQ]
          exact W.zret (v := iI 0) (ty := .boolean) hx hb hr (nb_bool (by omega) (by omega)) (fun t ht hW => ⟨⟨iI 0, (g_18, a_19), rfl, ⟨0, rfl, hI, hfA, haA, by omega, by show 0 = 0 ∨ (rPn g_18 a_19 (g_18 7) ∧ mz g_18 a_19 (g_18 7) < mz g a (g 7 + 1)); first | exact Or.inl rfl | exact Or.inr (st_5e hrP1 (by omega) k1 (Or.inl rfl) (by omega) (by omega) (by omega) (by omega) t_40 t_41 t_42 t_43 t_44 t_45 (by omega) (by omega) (by omega) ⟨by omega, by omega, by omega⟩ rfl) | exact Or.inr (st_5e hrP1 (by omega) k1 (Or.inr ⟨rfl, by omega, by omega⟩) (by omega) (by omega) (by omega) (by omega) t_40 t_41 t_42 t_43 t_44 t_45 (by omega) (by omega) (by omega) ⟨by omega, by omega, by omega⟩ rfl) | exact Or.inr (st_5p hrP1 (by omega) k1 ⟨by omega, by omega, by omega, by omega, t_40, t_41, t_42, t_43, t_44, t_45⟩ (by omega) (by omega) (by omega) (by omega) ⟨by omega, by omega, by omega⟩ ((rfl).trans (up_c rfl (by omega) rfl))), by show tkR tT tN g_18 a_19; first | assumption | exact tkR_t (by omega) (by omega) (by omega) (by omega) _ | exact tkR_t (by omega) (by omega) (by omega) (by omega) hrTk, by show nst tT tN g a g_18 a_19 0; first | exact nst_n (by omega) (by omega) (nf_5 hrTk k1 (by omega) (by omega)) | exact nst_y (by omega) (by omega) (nt_5e hrTk (by omega) (by omega) k1 (by omega) (by omega) (by omega) t_42 (by omega) rfl) | exact nst_y (by omega) (by omega) (nt_5p hrTk (by omega) (by omega) (by omega) k1 (by omega) (by omega) (by omega) t_42 (by omega) ((rfl).trans (up_c rfl (by omega) rfl)))⟩, by rw [ht]; exact hP, va_K.moved hW.alike hK, hD⟩, hS.F ht⟩) hS.2.2 dX13_factor_90
    refine xr_icmp_ne (tgt := 73) hx hb dX13_factor_39 (by decide) (by omega) (by omega) (fun h_161 => ?_) (fun h_161 => ?_)
    · exact J73 H locs ls (by omega) hP hD hS hl
    · refine lv_aload_n hx hb dX13_factor_42 rfl (lv_at hl 0 rfl) ?_
      refine gf_tokenValue hx hb hj hown hK hP hI dX13_factor_43 (fun h_162 => ?_)
      refine lv_bipush (v := iI 16) hx hb dX13_factor_46 rfl ?_
      refine lv_bipush (v := iI 24) hx hb dX13_factor_48 rfl ?_
      refine jc_i (va_runS (As := [.int (iI (g 5)), .int (iI 16), .int (iI 24)]) (rest := []) ⟨hx, hb, hml, hown, hts⟩ (sX13_in l dC dI _ (g 5) 16 24 (by omega) (by omega) (by omega)) (va_cwS 3 hts (jgoodS m_220 m_364 m_503 m_147) rfl rfl rfl (by decide +kernel) ⟨(Nat.le_of_ble_eq_true rfl), (Nat.le_of_ble_eq_true rfl)⟩) ⟨jw_blind0, fun U hU hW => ⟨rfl, congrArg Array.size hU⟩⟩ rfl rfl hl.1 rfl (lv_room (Nat.le_of_ble_eq_true rfl)) dX13_factor_50 ⟨(Nat.le_of_ble_eq_true rfl), (Nat.le_of_ble_eq_true rfl)⟩) hP hS hA (fun r_163 H locs w_164 hP hS => ?_)
      obtain ⟨z_165, rfl, h_166, h_167⟩ := w_164
      refine xr_if_eq (tgt := 73) hx hb dX13_factor_53 (by decide) (by omega) (fun h_168 => ?_) (fun h_168 => ?_)
      · exact J73 H locs ls (by omega) hP hD hS hl
      · refine lv_aload_n hx hb dX13_factor_56 rfl (lv_at hl 0 rfl) ?_
        refine lv_iconst (v := iI 1) hx hb dX13_factor_57 rfl ?_
        refine lv_aload_n hx hb dX13_factor_58 rfl (lv_at hl 0 rfl) ?_
        refine gf_tokenValue hx hb hj hown hK hP hI dX13_factor_59 (fun h_169 => ?_)
        refine lv_bipush (v := iI 16) hx hb dX13_factor_62 rfl ?_
        refine xr_sub hx hb dX13_factor_64 ?_
        refine xr_kept (fun z_170 h_171 h_172 => ?_)
        have tk9 := tkk_0 (show g 3 ≠ 0 by omega)
        refine jcg_v (va_runV (As := [.int (iI 1), .int (iI z_170)]) (rest := []) ⟨hx, hb, hml, hown, hts⟩ (sX13_emits l dC dI _ ad ca g a 1 z_170 hI (by omega) (by omega) (by omega)) (cwV 2 hts (jgoodV m_226 m_322 m_323 m_503 m_126) rfl rfl rfl (by decide +kernel) ⟨(Nat.le_of_ble_eq_true rfl), (Nat.le_of_ble_eq_true rfl)⟩) ⟨jw_blind, va_recv hK hP (ci := 13) (q0 := 0) rfl rfl, fun U hU hW => ⟨rfl, jw_of hU hW hP hK hD⟩⟩ rfl rfl hl.1 rfl (lv_room (Nat.le_of_ble_eq_true rfl)) dX13_factor_65 ⟨(Nat.le_of_ble_eq_true rfl), (Nat.le_of_ble_eq_true rfl)⟩) hD hS hA (fun u_181 H locs w_174 hP hK hD hS => ?_)
        obtain ⟨g_179, a_180⟩ := u_181
        obtain ⟨hI, hfr_182, hfr_183, h_176, h_177, h_178⟩ := w_174
        have hP : va_P (dC, dI) vwCl (mG ad ca g_179 a_180) H := hP
        have hD : va_D A (mG ad ca g_179 a_180) := hD
        have hfA : ∀ j, j ∉ ([2, 3, 4, 5, 7, 8, 12] : List Nat) → g_179 j = g j := fun j h => (hfr_182 j (fun q => h (by first | exact q | (simp only [List.mem_cons, List.not_mem_nil, or_false] at q ⊢ <;> omega)))).trans (hfA j h)
        have b_185 : g_179 1 = g 1 := hfA 1 (by decide)
        have b_186 : g_179 9 = g 9 := hfA 9 (by decide)
        have b_187 : g_179 15 = g 15 := hfA 15 (by decide)
        have b_188 := hfr_182 2 (by decide)
        have b_189 := hfr_182 3 (by decide)
        have b_190 := hfr_182 4 (by decide)
        have b_191 := hfr_182 5 (by decide)
        have b_192 := hfr_182 7 (by decide)
        have b_193 := hfr_182 8 (by decide)
        have haA : ∀ j, j ∉ ([2, 3, 4] : List Nat) → a_180 j = a j := fun j h => (hfr_183 j (fun q => h (by first | exact q | (simp only [List.mem_cons, List.not_mem_nil, or_false] at q ⊢ <;> omega)))).trans (haA j h)
        have h_176 : g_179 12 = g 12 + 1 := h_176
        have h_177 : a_180 3 = up (a 3) (g 12) 1 := h_177
        have h_178 : a_180 4 = up (a 4) (g 12) z_170 := h_178
        have b_194 : g_179 1 = g 1 := hfr_182 1 (by decide)
        have b_195 : g_179 2 = g 2 := hfr_182 2 (by decide)
        have b_196 : g_179 3 = g 3 := hfr_182 3 (by decide)
        have b_197 : g_179 4 = g 4 := hfr_182 4 (by decide)
        have b_198 : g_179 7 = g 7 := hfr_182 7 (by decide)
        have b_199 : g_179 8 = g 8 := hfr_182 8 (by decide)
        have b_200 : g_179 9 = g 9 := hfr_182 9 (by decide)
        have b_201 : g_179 15 = g 15 := hfr_182 15 (by decide)
        have b_202 : g_179 5 = g 5 := hfr_182 5 (by decide)
        have t_203 : a_180 2 = a 2 := (hfr_183 2 (by decide)).trans rfl
        have t_204 : a_180 3 = up (a 3) (g 12) 1 := h_177.trans (up_c rfl (by omega) (by omega))
        have t_205 : a_180 4 = up (a 4) (g 12) z_170 := h_178.trans (up_c rfl (by omega) (by omega))
        have t_206 : a_180 5 = a 5 := (hfr_183 5 (by decide)).trans rfl
        have t_207 : a_180 6 = a 6 := (hfr_183 6 (by decide)).trans rfl
        have t_208 : a_180 7 = a 7 := (hfr_183 7 (by decide)).trans rfl
        have t_209 : a_180 8 = a 8 := (hfr_183 8 (by decide)).trans rfl
        have b_210 : 0 ≤ g_179 12 ∧ g_179 12 ≤ 600 := hI.1 12
        refine lv_aload_n hx hb dX13_factor_68 rfl (lv_at hl 0 rfl) ?_
        refine jcg_i (va_runV (As := []) (rest := []) ⟨hx, hb, hml, hown, hts⟩ (sX13_takes l dC dI _ ad ca sK sV g_179 a_180 tT tN  hI (by omega) (txR_t (hfA 1 (by decide)) (haA 1 (by decide)) hrTx)) (cwV 0 hts (jgoodV m_228 m_480 m_481 m_503 m_208) rfl rfl rfl (by decide +kernel) ⟨(Nat.le_of_ble_eq_true rfl), (Nat.le_of_ble_eq_true rfl)⟩) ⟨mP_blind, va_recv hK hP (ci := 13) (q0 := 0) rfl rfl, fun U hU hW => ⟨rfl, mP_of hU hW hP hK hD hXs hS (fun _ h => h) hA⟩⟩ rfl rfl hl.1 rfl (lv_room (Nat.le_of_ble_eq_true rfl)) dX13_factor_69 ⟨(Nat.le_of_ble_eq_true rfl), (Nat.le_of_ble_eq_true rfl)⟩) hD hS hA (fun r_211 u_224 H locs w_212 hP hK hD hS => ?_)
        obtain ⟨g_222, a_223⟩ := u_224
        obtain ⟨z_213, rfl, hI, hfr_225, hfr_226, h_214, h_215, h_216, h_217, h_218, h_219, h_220, h_221⟩ := w_212
        have hP : va_P (dC, dI) vwCl (mG ad ca g_222 a_223) H := hP
        have hD : va_D A (mG ad ca g_222 a_223) := hD
        have hfA : ∀ j, j ∉ ([2, 3, 4, 5, 7, 8, 12] : List Nat) → g_222 j = g j := fun j h => (hfr_225 j (fun q => h (by first | exact q | (simp only [List.mem_cons, List.not_mem_nil, or_false] at q ⊢ <;> omega)))).trans (hfA j h)
        have b_228 : g_222 1 = g 1 := hfA 1 (by decide)
        have b_229 : g_222 9 = g 9 := hfA 9 (by decide)
        have b_230 : g_222 15 = g 15 := hfA 15 (by decide)
        have b_231 := hfr_225 7 (by decide)
        have b_232 := hfr_225 8 (by decide)
        have b_233 := hfr_225 12 (by decide)
        have haA : ∀ j, j ∉ ([2, 3, 4] : List Nat) → a_223 j = a j := fun j h => (hfr_226 j (fun q => h (by first | exact q | (simp only [List.mem_cons, List.not_mem_nil, or_false] at q ⊢ <;> omega)))).trans (haA j h)
        have h_216 : g_179 2 ≤ g_222 2 := h_216
        have h_217 : g_222 2 ≤ g_179 1 := h_217
        have h_218 : g_222 3 = 0 ∨ g_179 2 + 1 ≤ g_222 2 := h_218
        have h_219 : g_222 4 ≤ g_222 2 := h_219
        have h_220 : g_222 4 = scn (bB tT) tN (g_179 2) := h_220
        have h_221 : tkR tT tN g_222 a_223 := h_221
        have b_234 : g_222 1 = g_179 1 := hfr_225 1 (by decide)
        have b_235 : g_222 7 = g_179 7 := hfr_225 7 (by decide)
        have b_236 : g_222 8 = g_179 8 := hfr_225 8 (by decide)
        have b_237 : g_222 9 = g_179 9 := hfr_225 9 (by decide)
        have b_238 : g_222 12 = g_179 12 := hfr_225 12 (by decide)
        have b_239 : g_222 15 = g_179 15 := hfr_225 15 (by decide)
        have t_240 : a_223 2 = a 2 := (hfr_226 2 (by decide)).trans t_203
        have t_241 : a_223 3 = up (a 3) (g 12) 1 := (hfr_226 3 (by decide)).trans t_204
        have t_242 : a_223 4 = up (a 4) (g 12) z_170 := (hfr_226 4 (by decide)).trans t_205
        have t_243 : a_223 5 = a 5 := (hfr_226 5 (by decide)).trans t_206
        have t_244 : a_223 6 = a 6 := (hfr_226 6 (by decide)).trans t_207
        have t_245 : a_223 7 = a 7 := (hfr_226 7 (by decide)).trans t_208
        have t_246 : a_223 8 = a 8 := (hfr_226 8 (by decide)).trans t_209
        have b_247 : 0 ≤ g_222 1 ∧ g_222 1 ≤ 600 := hI.1 1
        have b_248 : 0 ≤ g_222 2 ∧ g_222 2 ≤ 600 := hI.1 2
        have e9 : g_222 4 = scn (bB tT) tN (g 2) := by rw [show g 2 = g_179 2 by omega]; exact h_220
        rw [← hQ]
        exact W.zret (v := iI z_213) (ty := .boolean) hx hb hr (nb_bool (by omega) (by omega)) (fun t ht hW => ⟨⟨iI z_213, (g_222, a_223), rfl, ⟨z_213, rfl, hI, hfA, haA, by omega, by show z_213 = 0 ∨ (rPn g_222 a_223 (g_222 7) ∧ mz g_222 a_223 (g_222 7) < mz g a (g 7 + 1)); first | exact Or.inl rfl | exact Or.inr (st_5e hrP1 (by omega) k1 (Or.inl rfl) (by omega) (by omega) (by omega) (by omega) t_241 t_242 t_243 t_244 t_245 t_246 (by omega) (by omega) (by omega) ⟨by omega, by omega, by omega⟩ t_240) | exact Or.inr (st_5e hrP1 (by omega) k1 (Or.inr ⟨rfl, by omega, by omega⟩) (by omega) (by omega) (by omega) (by omega) t_241 t_242 t_243 t_244 t_245 t_246 (by omega) (by omega) (by omega) ⟨by omega, by omega, by omega⟩ t_240) | exact Or.inr (st_5p hrP1 (by omega) k1 ⟨by omega, by omega, by omega, by omega, t_241, t_242, t_243, t_244, t_245, t_246⟩ (by omega) (by omega) (by omega) (by omega) ⟨by omega, by omega, by omega⟩ ((t_240).trans (up_c rfl (by omega) rfl))), by show tkR tT tN g_222 a_223; first | assumption | exact tkR_t (by omega) (by omega) (by omega) (by omega) h_221 | exact tkR_t (by omega) (by omega) (by omega) (by omega) hrTk, by show nst tT tN g a g_222 a_223 z_213; first | exact nst_n (by omega) (by omega) (nf_5 hrTk k1 (by omega) (by omega)) | exact nst_y (by omega) (by omega) (nt_5e hrTk (by omega) (by omega) k1 (by omega) (by omega) (by omega) t_243 (by omega) t_240) | exact nst_y (by omega) (by omega) (nt_5p hrTk (by omega) (by omega) (by omega) k1 (by omega) (by omega) (by omega) t_243 (by omega) ((t_240).trans (up_c rfl (by omega) rfl)))⟩, by rw [ht]; exact hP, va_K.moved hW.alike hK, hD⟩, hS.F ht⟩) hS.2.2 dX13_factor_72
  · refine lv_aload_n hx hb dX13_factor_8 rfl (lv_at hl 0 rfl) ?_
    refine gf_tokenValue hx hb hj hown hK hP hI dX13_factor_9 (fun h_249 => ?_)
    refine lv_ldcw hx hb hown (hts (.constant RX13 364 99999) (jm m_506)) dX13_factor_12 ?_
    refine jt_i (iI 99999) (by decide) ?_
    refine xr_icmp_le (tgt := 20) hx hb dX13_factor_15 (by decide) (by omega) (by omega) (fun h_250 => ?_) (fun h_250 => ?_)
    · refine lv_aload_n hx hb dX13_factor_20 rfl (lv_at hl 0 rfl) ?_
      refine lv_iconst (v := iI 0) hx hb dX13_factor_21 rfl ?_
      refine lv_aload_n hx hb dX13_factor_22 rfl (lv_at hl 0 rfl) ?_
      refine gf_tokenValue hx hb hj hown hK hP hI dX13_factor_23 (fun h_251 => ?_)
      have tk9 := tkk_0 (show g 3 ≠ 0 by omega)
      refine jcg_v (va_runV (As := [.int (iI 0), .int (iI (g 5))]) (rest := []) ⟨hx, hb, hml, hown, hts⟩ (sX13_emits l dC dI _ ad ca g a 0 (g 5) hI (by omega) (by omega) (by omega)) (cwV 2 hts (jgoodV m_226 m_322 m_323 m_503 m_126) rfl rfl rfl (by decide +kernel) ⟨(Nat.le_of_ble_eq_true rfl), (Nat.le_of_ble_eq_true rfl)⟩) ⟨jw_blind, va_recv hK hP (ci := 13) (q0 := 0) rfl rfl, fun U hU hW => ⟨rfl, jw_of hU hW hP hK hD⟩⟩ rfl rfl hl.1 rfl (lv_room (Nat.le_of_ble_eq_true rfl)) dX13_factor_26 ⟨(Nat.le_of_ble_eq_true rfl), (Nat.le_of_ble_eq_true rfl)⟩) hD hS hA (fun u_260 H locs w_253 hP hK hD hS => ?_)
      obtain ⟨g_258, a_259⟩ := u_260
      obtain ⟨hI, hfr_261, hfr_262, h_255, h_256, h_257⟩ := w_253
      have hP : va_P (dC, dI) vwCl (mG ad ca g_258 a_259) H := hP
      have hD : va_D A (mG ad ca g_258 a_259) := hD
      have hfA : ∀ j, j ∉ ([2, 3, 4, 5, 7, 8, 12] : List Nat) → g_258 j = g j := fun j h => (hfr_261 j (fun q => h (by first | exact q | (simp only [List.mem_cons, List.not_mem_nil, or_false] at q ⊢ <;> omega)))).trans (hfA j h)
      have b_264 : g_258 1 = g 1 := hfA 1 (by decide)
      have b_265 : g_258 9 = g 9 := hfA 9 (by decide)
      have b_266 : g_258 15 = g 15 := hfA 15 (by decide)
      have b_267 := hfr_261 2 (by decide)
      have b_268 := hfr_261 3 (by decide)
      have b_269 := hfr_261 4 (by decide)
      have b_270 := hfr_261 5 (by decide)
      have b_271 := hfr_261 7 (by decide)
      have b_272 := hfr_261 8 (by decide)
      have haA : ∀ j, j ∉ ([2, 3, 4] : List Nat) → a_259 j = a j := fun j h => (hfr_262 j (fun q => h (by first | exact q | (simp only [List.mem_cons, List.not_mem_nil, or_false] at q ⊢ <;> omega)))).trans (haA j h)
      have h_255 : g_258 12 = g 12 + 1 := h_255
      have h_256 : a_259 3 = up (a 3) (g 12) 0 := h_256
      have h_257 : a_259 4 = up (a 4) (g 12) (g 5) := h_257
      have b_273 : g_258 1 = g 1 := hfr_261 1 (by decide)
      have b_274 : g_258 2 = g 2 := hfr_261 2 (by decide)
      have b_275 : g_258 3 = g 3 := hfr_261 3 (by decide)
      have b_276 : g_258 4 = g 4 := hfr_261 4 (by decide)
      have b_277 : g_258 7 = g 7 := hfr_261 7 (by decide)
      have b_278 : g_258 8 = g 8 := hfr_261 8 (by decide)
      have b_279 : g_258 9 = g 9 := hfr_261 9 (by decide)
      have b_280 : g_258 15 = g 15 := hfr_261 15 (by decide)
      have b_281 : g_258 5 = g 5 := hfr_261 5 (by decide)
      have t_282 : a_259 2 = a 2 := (hfr_262 2 (by decide)).trans rfl
      have t_283 : a_259 3 = up (a 3) (g 12) 0 := h_256.trans (up_c rfl (by omega) (by omega))
      have t_284 : a_259 4 = up (a 4) (g 12) (g 5) := h_257.trans (up_c rfl (by omega) (by omega))
      have t_285 : a_259 5 = a 5 := (hfr_262 5 (by decide)).trans rfl
      have t_286 : a_259 6 = a 6 := (hfr_262 6 (by decide)).trans rfl
      have t_287 : a_259 7 = a 7 := (hfr_262 7 (by decide)).trans rfl
      have t_288 : a_259 8 = a 8 := (hfr_262 8 (by decide)).trans rfl
      have b_289 : 0 ≤ g_258 12 ∧ g_258 12 ≤ 600 := hI.1 12
      refine lv_aload_n hx hb dX13_factor_29 rfl (lv_at hl 0 rfl) ?_
      refine jcg_i (va_runV (As := []) (rest := []) ⟨hx, hb, hml, hown, hts⟩ (sX13_takes l dC dI _ ad ca sK sV g_258 a_259 tT tN  hI (by omega) (txR_t (hfA 1 (by decide)) (haA 1 (by decide)) hrTx)) (cwV 0 hts (jgoodV m_228 m_480 m_481 m_503 m_208) rfl rfl rfl (by decide +kernel) ⟨(Nat.le_of_ble_eq_true rfl), (Nat.le_of_ble_eq_true rfl)⟩) ⟨mP_blind, va_recv hK hP (ci := 13) (q0 := 0) rfl rfl, fun U hU hW => ⟨rfl, mP_of hU hW hP hK hD hXs hS (fun _ h => h) hA⟩⟩ rfl rfl hl.1 rfl (lv_room (Nat.le_of_ble_eq_true rfl)) dX13_factor_30 ⟨(Nat.le_of_ble_eq_true rfl), (Nat.le_of_ble_eq_true rfl)⟩) hD hS hA (fun r_290 u_303 H locs w_291 hP hK hD hS => ?_)
      obtain ⟨g_301, a_302⟩ := u_303
      obtain ⟨z_292, rfl, hI, hfr_304, hfr_305, h_293, h_294, h_295, h_296, h_297, h_298, h_299, h_300⟩ := w_291
      have hP : va_P (dC, dI) vwCl (mG ad ca g_301 a_302) H := hP
      have hD : va_D A (mG ad ca g_301 a_302) := hD
      have hfA : ∀ j, j ∉ ([2, 3, 4, 5, 7, 8, 12] : List Nat) → g_301 j = g j := fun j h => (hfr_304 j (fun q => h (by first | exact q | (simp only [List.mem_cons, List.not_mem_nil, or_false] at q ⊢ <;> omega)))).trans (hfA j h)
      have b_307 : g_301 1 = g 1 := hfA 1 (by decide)
      have b_308 : g_301 9 = g 9 := hfA 9 (by decide)
      have b_309 : g_301 15 = g 15 := hfA 15 (by decide)
      have b_310 := hfr_304 7 (by decide)
      have b_311 := hfr_304 8 (by decide)
      have b_312 := hfr_304 12 (by decide)
      have haA : ∀ j, j ∉ ([2, 3, 4] : List Nat) → a_302 j = a j := fun j h => (hfr_305 j (fun q => h (by first | exact q | (simp only [List.mem_cons, List.not_mem_nil, or_false] at q ⊢ <;> omega)))).trans (haA j h)
      have h_295 : g_258 2 ≤ g_301 2 := h_295
      have h_296 : g_301 2 ≤ g_258 1 := h_296
      have h_297 : g_301 3 = 0 ∨ g_258 2 + 1 ≤ g_301 2 := h_297
      have h_298 : g_301 4 ≤ g_301 2 := h_298
      have h_299 : g_301 4 = scn (bB tT) tN (g_258 2) := h_299
      have h_300 : tkR tT tN g_301 a_302 := h_300
      have b_313 : g_301 1 = g_258 1 := hfr_304 1 (by decide)
      have b_314 : g_301 7 = g_258 7 := hfr_304 7 (by decide)
      have b_315 : g_301 8 = g_258 8 := hfr_304 8 (by decide)
      have b_316 : g_301 9 = g_258 9 := hfr_304 9 (by decide)
      have b_317 : g_301 12 = g_258 12 := hfr_304 12 (by decide)
      have b_318 : g_301 15 = g_258 15 := hfr_304 15 (by decide)
      have t_319 : a_302 2 = a 2 := (hfr_305 2 (by decide)).trans t_282
      have t_320 : a_302 3 = up (a 3) (g 12) 0 := (hfr_305 3 (by decide)).trans t_283
      have t_321 : a_302 4 = up (a 4) (g 12) (g 5) := (hfr_305 4 (by decide)).trans t_284
      have t_322 : a_302 5 = a 5 := (hfr_305 5 (by decide)).trans t_285
      have t_323 : a_302 6 = a 6 := (hfr_305 6 (by decide)).trans t_286
      have t_324 : a_302 7 = a 7 := (hfr_305 7 (by decide)).trans t_287
      have t_325 : a_302 8 = a 8 := (hfr_305 8 (by decide)).trans t_288
      have b_326 : 0 ≤ g_301 1 ∧ g_301 1 ≤ 600 := hI.1 1
      have b_327 : 0 ≤ g_301 2 ∧ g_301 2 ≤ 600 := hI.1 2
      have e9 : g_301 4 = scn (bB tT) tN (g 2) := by rw [show g 2 = g_258 2 by omega]; exact h_299
      rw [← hQ]
      exact W.zret (v := iI z_292) (ty := .boolean) hx hb hr (nb_bool (by omega) (by omega)) (fun t ht hW => ⟨⟨iI z_292, (g_301, a_302), rfl, ⟨z_292, rfl, hI, hfA, haA, by omega, by show z_292 = 0 ∨ (rPn g_301 a_302 (g_301 7) ∧ mz g_301 a_302 (g_301 7) < mz g a (g 7 + 1)); first | exact Or.inl rfl | exact Or.inr (st_5e hrP1 (by omega) k1 (Or.inl rfl) (by omega) (by omega) (by omega) (by omega) t_320 t_321 t_322 t_323 t_324 t_325 (by omega) (by omega) (by omega) ⟨by omega, by omega, by omega⟩ t_319) | exact Or.inr (st_5e hrP1 (by omega) k1 (Or.inr ⟨rfl, by omega, by omega⟩) (by omega) (by omega) (by omega) (by omega) t_320 t_321 t_322 t_323 t_324 t_325 (by omega) (by omega) (by omega) ⟨by omega, by omega, by omega⟩ t_319) | exact Or.inr (st_5p hrP1 (by omega) k1 ⟨by omega, by omega, by omega, by omega, t_320, t_321, t_322, t_323, t_324, t_325⟩ (by omega) (by omega) (by omega) (by omega) ⟨by omega, by omega, by omega⟩ ((t_319).trans (up_c rfl (by omega) rfl))), by show tkR tT tN g_301 a_302; first | assumption | exact tkR_t (by omega) (by omega) (by omega) (by omega) h_300 | exact tkR_t (by omega) (by omega) (by omega) (by omega) hrTk, by show nst tT tN g a g_301 a_302 z_292; first | exact nst_n (by omega) (by omega) (nf_5 hrTk k1 (by omega) (by omega)) | exact nst_y (by omega) (by omega) (nt_5e hrTk (by omega) (by omega) k1 (by omega) (by omega) (by omega) t_322 (by omega) t_319) | exact nst_y (by omega) (by omega) (nt_5p hrTk (by omega) (by omega) (by omega) k1 (by omega) (by omega) (by omega) t_322 (by omega) ((t_319).trans (up_c rfl (by omega) rfl)))⟩, by rw [ht]; exact hP, va_K.moved hW.alike hK, hD⟩, hS.F ht⟩) hS.2.2 dX13_factor_33
    · refine lv_iconst (v := iI 0) hx hb dX13_factor_18 rfl ?_
      rw [← hQ]
      exact W.zret (v := iI 0) (ty := .boolean) hx hb hr (nb_bool (by omega) (by omega)) (fun t ht hW => ⟨⟨iI 0, (g, a), rfl, ⟨0, rfl, hI, hfA, haA, by omega, by show 0 = 0 ∨ (rPn g a (g 7) ∧ mz g a (g 7) < mz g a (g 7 + 1)); first | exact Or.inl rfl | exact Or.inr (st_5e hrP1 (by omega) k1 (Or.inl rfl) (by omega) (by omega) (by omega) (by omega) rfl rfl rfl rfl rfl rfl (by omega) (by omega) (by omega) ⟨by omega, by omega, by omega⟩ rfl) | exact Or.inr (st_5e hrP1 (by omega) k1 (Or.inr ⟨rfl, by omega, by omega⟩) (by omega) (by omega) (by omega) (by omega) rfl rfl rfl rfl rfl rfl (by omega) (by omega) (by omega) ⟨by omega, by omega, by omega⟩ rfl) | exact Or.inr (st_5p hrP1 (by omega) k1 ⟨by omega, by omega, by omega, by omega, rfl, rfl, rfl, rfl, rfl, rfl⟩ (by omega) (by omega) (by omega) (by omega) ⟨by omega, by omega, by omega⟩ ((rfl).trans (up_c rfl (by omega) rfl))), by show tkR tT tN g a; first | assumption | exact tkR_t (by omega) (by omega) (by omega) (by omega) _ | exact tkR_t (by omega) (by omega) (by omega) (by omega) hrTk, by show nst tT tN g a g a 0; first | exact nst_n (by omega) (by omega) (nf_5 hrTk k1 (by omega) (by omega)) | exact nst_y (by omega) (by omega) (nt_5e hrTk (by omega) (by omega) k1 (by omega) (by omega) (by omega) rfl (by omega) rfl) | exact nst_y (by omega) (by omega) (nt_5p hrTk (by omega) (by omega) (by omega) k1 (by omega) (by omega) (by omega) rfl (by omega) ((rfl).trans (up_c rfl (by omega) rfl)))⟩, by rw [ht]; exact hP, va_K.moved hW.alike hK, hD⟩, hS.F ht⟩) hS.2.2 dX13_factor_19
