set_option maxHeartbeats 2000000 in
set_option maxRecDepth 100000 in
theorem sX13_begins (l : Launch) (dC : Nat → ClassId) (dI : Nat → Nat → Nat) (sz : Nat) (ad : Nat → Nat) (ca : Nat → ClassId) (sK sV : Nat → Nat) (g : Nat → Int) (a : Nat → Int → Int) (p1 : Int) (p2 : Int) (hI : mI g a) (q1 : rg p1) (q2 : rg p2) (k1 : 0 ≤ p1 ∧ p1 < 14) (k2 : p2 = 1 ∨ p2 = 6) (hrM : rM g a) : Met l yX13_begins (jk yX13_begins cX13_begins 3 (some .boolean)) ({ frames := 7, cells := 0, slots := 0, locals := 153 }) (va_Pc [.ref (ad 0), .int (iI p1), .int (iI p2)] (mP (dC, dI) (mG ad ca g a) (mT ca) sK sV sz)) (va_Qi (fun (r : Int32) (u : (Nat → Int) × (Nat → Int → Int)) => ∃ z : Int, r = iI z ∧ (mI u.1 u.2) ∧ (∀ j, j ∉ ([2, 3, 4, 5, 7, 9] : List Nat) → u.1 j = g j) ∧ (∀ j, j ∉ ([2, 5] : List Nat) → u.2 j = a j) ∧ (0 ≤ z ∧ z ≤ 1) ∧ (z = 0 ∨ (rPn u.1 u.2 (u.1 7) ∧ mz u.1 u.2 (u.1 7) ≤ mB g))) (fun u t => va_P (dC, dI) vwCl (mG ad ca u.1 u.2) t.heap ∧ va_K (dC, dI) vwCl (mT ca) t ∧ va_D (va_A (mG ad ca g a) sz) (mG ad ca u.1 u.2)) (va_A (mG ad ca g a) sz)) 0 0 (va_A (mG ad ca g a) sz) := by
  refine Met.ofW (cc := cX13_begins) (maxL := 3) (ret := (some .boolean)) (by decide) rfl ?_
  intro p e s m args below meth c s₁ B hml hv
  obtain ⟨rfl, ⟨hsz, hP, hK, hD0⟩, hX0⟩ := hv
  have hx := B.exec
  have hb := B.bytes
  have hr := B.returns
  have hts := atoms_spec (ws := (jk yX13_begins cX13_begins 3 (some .boolean))) B.pre
  have hj : ∀ w ∈ jw, w.before ([.ref (ad 0), .int (iI p1), .int (iI p2)] : List Value).toArray s = true := fun w h => hts w (jm h)
  have hown : s.vm.findClass RX13 = some m.cls := findClass_of_methodNamed B.named
  subst hsz
  have hD := hD0.self (sz := s.heap.size)
  have hXs := hX0
  generalize hAe : (va_A (mG ad ca g a) s.heap.size) = A at hD hXs ⊢
  have hA : ∀ q : Nat, s.heap.size ≤ q → A q := fun q h => by rw [← hAe]; exact Or.inr h
  have hS : va_S A s.heap s.heap [] := va_S.rf
  have hP : va_P (dC, dI) vwCl (mG ad ca g a) s.heap := hP
  have hfA : ∀ j, j ∉ ([2, 3, 4, 5, 7, 9] : List Nat) → g j = g j := fun _ _ => rfl
  have haA : ∀ j, j ∉ ([2, 5] : List Nat) → a j = a j := fun _ _ => rfl
  have hl := lv_entry ([.ref (ad 0), .int (iI p1), .int (iI p2)]) (n := 3) (Nat.le_of_ble_eq_true rfl)
  rw [lg_entry_eq]
  generalize (lg_sl ([.ref (ad 0), .int (iI p1), .int (iI p2)]) ++ List.replicate (3 - (lg_sl ([.ref (ad 0), .int (iI p1), .int (iI p2)])).length) Slot.unset).toArray = ls at hl ⊢
  have hl : lv_has ls 3 [(0, .ref (ad 0)), (1, .int (iI p1)), (2, .int (iI p2))] := hl
  generalize hQ : MQ below (va_Qi (fun (r : Int32) (u : (Nat → Int) × (Nat → Int → Int)) => ∃ z : Int, r = iI z ∧ (mI u.1 u.2) ∧ (∀ j, j ∉ ([2, 3, 4, 5, 7, 9] : List Nat) → u.1 j = g j) ∧ (∀ j, j ∉ ([2, 5] : List Nat) → u.2 j = a j) ∧ (0 ≤ z ∧ z ≤ 1) ∧ (z = 0 ∨ (rPn u.1 u.2 (u.1 7) ∧ mz u.1 u.2 (u.1 7) ≤ mB g))) (fun u t => va_P (dC, dI) vwCl (mG ad ca u.1 u.2) t.heap ∧ va_K (dC, dI) vwCl (mT ca) t ∧ va_D A (mG ad ca u.1 u.2)) A) ([.ref (ad 0), .int (iI p1), .int (iI p2)] : List Value).toArray s 0 0 A = Q
  suffices ST : ∀ (H : Heap) (locs : List Loc), va_P (dC, dI) vwCl (mG ad ca g a) H → va_S A s.heap H locs → W p l e ({ frames := 7, cells := 0, slots := 0, locals := 153 }) s m ([.ref (ad 0), .int (iI p1), .int (iI p2)] : List Value).toArray below meth c H locs 0 0 Q (F0 m 0 ls []) from ST _ _ hP hS
  clear hP hS
  intro H locs hP hS
  obtain ⟨m1, m2, m3, m4, m5, m6, m7, m8, -, -⟩ := id hrM
  have b1_0 : 0 ≤ g 1 ∧ g 1 ≤ 600 := hI.1 1
  have b2_0 : 0 ≤ g 2 ∧ g 2 ≤ 600 := hI.1 2
  refine lv_aload_n hx hb dX13_begins_0 rfl (lv_at hl 0 rfl) ?_
  refine gf_slotBegin hx hb hj hown hK hP dX13_begins_1 ?_
  refine lv_iload_n hx hb dX13_begins_4 rfl (lv_at hl 1 rfl) ?_
  refine ld_slotBegin hx hb hK hP hI (by omega) (by omega) dX13_begins_5 (fun h_1 => ?_)
  refine lv_iconst (v := iI (-1)) hx hb dX13_begins_6 rfl ?_
  refine xr_icmp_eq (tgt := 12) hx hb dX13_begins_7 (by decide) (by omega) (by omega) (fun h_2 => ?_) (fun h_2 => ?_)
  · refine lv_aload_n hx hb dX13_begins_12 rfl (lv_at hl 0 rfl) ?_
    refine lv_iload_n hx hb dX13_begins_13 rfl (lv_at hl 1 rfl) ?_
    refine pf_slot hx hb hj hown hK hP hD hS hI (by omega) (by omega) dX13_begins_14 (fun g_3 H locs e_4 e_5 hI hP hD hS => ?_)
    have hfA : ∀ j, j ∉ ([2, 3, 4, 5, 7, 9] : List Nat) → g_3 j = g j := fun j h => (e_4 j (fun q => h (q ▸ (by decide : 9 ∈ ([2, 3, 4, 5, 7, 9] : List Nat))))).trans (hfA j h)
    have b_6 := e_4 2 (by decide)
    have b_7 := e_4 3 (by decide)
    have b_8 := e_4 7 (by decide)
    have b_9 : g_3 1 = g 1 := hfA 1 (by decide)
    have b_10 : g_3 8 = g 8 := hfA 8 (by decide)
    have b_11 : g_3 12 = g 12 := hfA 12 (by decide)
    have b_12 : g_3 15 = g 15 := hfA 15 (by decide)
    have b_13 := e_4 1 (by decide)
    have b_14 := e_4 2 (by decide)
    have b_15 := e_4 3 (by decide)
    have b_16 := e_4 4 (by decide)
    have b_17 := e_4 7 (by decide)
    have b_18 := e_4 8 (by decide)
    have b_19 := e_4 12 (by decide)
    have b_20 := e_4 15 (by decide)
    refine lv_aload_n hx hb dX13_begins_17 rfl (lv_at hl 0 rfl) ?_
    refine gf_slotBegin hx hb hj hown hK hP dX13_begins_18 ?_
    refine lv_iload_n hx hb dX13_begins_21 rfl (lv_at hl 1 rfl) ?_
    refine lv_aload_n hx hb dX13_begins_22 rfl (lv_at hl 0 rfl) ?_
    refine gf_doing hx hb hj hown hK hP hI dX13_begins_23 (fun h_21 => ?_)
    refine st_slotBegin hx hb hK hP hD hS hI (by omega) (by omega) (by omega) (by omega) dX13_begins_26 (fun a_22 H locs e_23 e_24 hI hP hD hS => ?_)
    have haA : ∀ j, j ∉ ([2, 5] : List Nat) → a_22 j = a j := fun j h => (e_23 j (fun q => h (q ▸ (by decide : 5 ∈ ([2, 5] : List Nat))))).trans (haA j h)
    have t_25 : a_22 2 = a 2 := (e_23 2 (by decide)).trans rfl
    have t_26 : a_22 3 = a 3 := (e_23 3 (by decide)).trans rfl
    have t_27 : a_22 4 = a 4 := (e_23 4 (by decide)).trans rfl
    have t_28 : a_22 5 = up (a 5) p1 (g 12) := e_24.trans (up_c rfl (by omega) (by omega))
    have t_29 : a_22 6 = a 6 := (e_23 6 (by decide)).trans rfl
    have t_30 : a_22 7 = a 7 := (e_23 7 (by decide)).trans rfl
    have t_31 : a_22 8 = a 8 := (e_23 8 (by decide)).trans rfl
    refine lv_aload_n hx hb dX13_begins_27 rfl (lv_at hl 0 rfl) ?_
    refine lv_bipush (v := iI 13) hx hb dX13_begins_28 rfl ?_
    refine jcg_v (va_runV (As := [.int (iI 13)]) (rest := []) ⟨hx, hb, hml, hown, hts⟩ (sX13_push l dC dI _ ad ca g_3 a_22 13 hI (by omega) (by omega)) (cwV 1 hts (jgoodV m_225 m_452 m_453 m_503 m_194) rfl rfl rfl (by decide +kernel) ⟨(Nat.le_of_ble_eq_true rfl), (Nat.le_of_ble_eq_true rfl)⟩) ⟨jw_blind, va_recv hK hP (ci := 13) (q0 := 0) rfl rfl, fun U hU hW => ⟨rfl, jw_of hU hW hP hK hD⟩⟩ rfl rfl hl.1 rfl (lv_room (Nat.le_of_ble_eq_true rfl)) dX13_begins_30 ⟨(Nat.le_of_ble_eq_true rfl), (Nat.le_of_ble_eq_true rfl)⟩) hD hS hA (fun u_39 H locs w_33 hP hK hD hS => ?_)
    obtain ⟨g_37, a_38⟩ := u_39
    obtain ⟨hI, hfr_40, hfr_41, h_35, h_36⟩ := w_33
    have hP : va_P (dC, dI) vwCl (mG ad ca g_37 a_38) H := hP
    have hD : va_D A (mG ad ca g_37 a_38) := hD
    have hfA : ∀ j, j ∉ ([2, 3, 4, 5, 7, 9] : List Nat) → g_37 j = g j := fun j h => (hfr_40 j (fun q => h (by first | exact q | (simp only [List.mem_cons, List.not_mem_nil, or_false] at q ⊢ <;> omega)))).trans (hfA j h)
    have b_43 : g_37 1 = g 1 := hfA 1 (by decide)
    have b_44 : g_37 8 = g 8 := hfA 8 (by decide)
    have b_45 : g_37 12 = g 12 := hfA 12 (by decide)
    have b_46 : g_37 15 = g 15 := hfA 15 (by decide)
    have b_47 := hfr_40 2 (by decide)
    have b_48 := hfr_40 3 (by decide)
    have b_49 := hfr_40 9 (by decide)
    have haA : ∀ j, j ∉ ([2, 5] : List Nat) → a_38 j = a j := fun j h => (hfr_41 j (fun q => h (by first | exact q | (simp only [List.mem_cons, List.not_mem_nil, or_false] at q ⊢ <;> omega)))).trans (haA j h)
    have h_35 : g_37 7 = g_3 7 + 1 := h_35
    have h_36 : a_38 2 = up (a_22 2) (g_3 7) 13 := h_36
    have b_50 : g_37 1 = g_3 1 := hfr_40 1 (by decide)
    have b_51 : g_37 2 = g_3 2 := hfr_40 2 (by decide)
    have b_52 : g_37 3 = g_3 3 := hfr_40 3 (by decide)
    have b_53 : g_37 4 = g_3 4 := hfr_40 4 (by decide)
    have b_54 : g_37 8 = g_3 8 := hfr_40 8 (by decide)
    have b_55 : g_37 9 = g_3 9 := hfr_40 9 (by decide)
    have b_56 : g_37 12 = g_3 12 := hfr_40 12 (by decide)
    have b_57 : g_37 15 = g_3 15 := hfr_40 15 (by decide)
    have t_58 : a_38 2 = up (a 2) (g 7) 13 := h_36.trans (up_c t_25 (by omega) (by omega))
    have t_59 : a_38 3 = a 3 := (hfr_41 3 (by decide)).trans t_26
    have t_60 : a_38 4 = a 4 := (hfr_41 4 (by decide)).trans t_27
    have t_61 : a_38 5 = up (a 5) p1 (g 12) := (hfr_41 5 (by decide)).trans t_28
    have t_62 : a_38 6 = a 6 := (hfr_41 6 (by decide)).trans t_29
    have t_63 : a_38 7 = a 7 := (hfr_41 7 (by decide)).trans t_30
    have t_64 : a_38 8 = a 8 := (hfr_41 8 (by decide)).trans t_31
    have b_65 : 0 ≤ g_37 7 ∧ g_37 7 ≤ 1200 := hI.1 7
    refine lv_aload_n hx hb dX13_begins_33 rfl (lv_at hl 0 rfl) ?_
    refine lv_iload_n hx hb dX13_begins_34 rfl (lv_at hl 2 rfl) ?_
    refine jcg_v (va_runV (As := [.int (iI p2)]) (rest := []) ⟨hx, hb, hml, hown, hts⟩ (sX13_push l dC dI _ ad ca g_37 a_38 p2 hI (by omega) (by omega)) (cwV 1 hts (jgoodV m_225 m_452 m_453 m_503 m_194) rfl rfl rfl (by decide +kernel) ⟨(Nat.le_of_ble_eq_true rfl), (Nat.le_of_ble_eq_true rfl)⟩) ⟨jw_blind, va_recv hK hP (ci := 13) (q0 := 0) rfl rfl, fun U hU hW => ⟨rfl, jw_of hU hW hP hK hD⟩⟩ rfl rfl hl.1 rfl (lv_room (Nat.le_of_ble_eq_true rfl)) dX13_begins_35 ⟨(Nat.le_of_ble_eq_true rfl), (Nat.le_of_ble_eq_true rfl)⟩) hD hS hA (fun u_73 H locs w_67 hP hK hD hS => ?_)
    obtain ⟨g_71, a_72⟩ := u_73
    obtain ⟨hI, hfr_74, hfr_75, h_69, h_70⟩ := w_67
    have hP : va_P (dC, dI) vwCl (mG ad ca g_71 a_72) H := hP
    have hD : va_D A (mG ad ca g_71 a_72) := hD
    have hfA : ∀ j, j ∉ ([2, 3, 4, 5, 7, 9] : List Nat) → g_71 j = g j := fun j h => (hfr_74 j (fun q => h (by first | exact q | (simp only [List.mem_cons, List.not_mem_nil, or_false] at q ⊢ <;> omega)))).trans (hfA j h)
    have b_77 : g_71 1 = g 1 := hfA 1 (by decide)
    have b_78 : g_71 8 = g 8 := hfA 8 (by decide)
    have b_79 : g_71 12 = g 12 := hfA 12 (by decide)
    have b_80 : g_71 15 = g 15 := hfA 15 (by decide)
    have b_81 := hfr_74 2 (by decide)
    have b_82 := hfr_74 3 (by decide)
    have b_83 := hfr_74 9 (by decide)
    have haA : ∀ j, j ∉ ([2, 5] : List Nat) → a_72 j = a j := fun j h => (hfr_75 j (fun q => h (by first | exact q | (simp only [List.mem_cons, List.not_mem_nil, or_false] at q ⊢ <;> omega)))).trans (haA j h)
    have h_69 : g_71 7 = g_37 7 + 1 := h_69
    have h_70 : a_72 2 = up (a_38 2) (g_37 7) p2 := h_70
    have b_84 : g_71 1 = g_37 1 := hfr_74 1 (by decide)
    have b_85 : g_71 2 = g_37 2 := hfr_74 2 (by decide)
    have b_86 : g_71 3 = g_37 3 := hfr_74 3 (by decide)
    have b_87 : g_71 4 = g_37 4 := hfr_74 4 (by decide)
    have b_88 : g_71 8 = g_37 8 := hfr_74 8 (by decide)
    have b_89 : g_71 9 = g_37 9 := hfr_74 9 (by decide)
    have b_90 : g_71 12 = g_37 12 := hfr_74 12 (by decide)
    have b_91 : g_71 15 = g_37 15 := hfr_74 15 (by decide)
    have t_92 : a_72 2 = up (up (a 2) (g 7) 13) ((g 7 + 1)) p2 := h_70.trans (up_c t_58 (by omega) (by omega))
    have t_93 : a_72 3 = a 3 := (hfr_75 3 (by decide)).trans t_59
    have t_94 : a_72 4 = a 4 := (hfr_75 4 (by decide)).trans t_60
    have t_95 : a_72 5 = up (a 5) p1 (g 12) := (hfr_75 5 (by decide)).trans t_61
    have t_96 : a_72 6 = a 6 := (hfr_75 6 (by decide)).trans t_62
    have t_97 : a_72 7 = a 7 := (hfr_75 7 (by decide)).trans t_63
    have t_98 : a_72 8 = a 8 := (hfr_75 8 (by decide)).trans t_64
    have b_99 : 0 ≤ g_71 7 ∧ g_71 7 ≤ 1200 := hI.1 7
    refine lv_aload_n hx hb dX13_begins_38 rfl (lv_at hl 0 rfl) ?_
    refine jcg_i (va_runV (As := []) (rest := []) ⟨hx, hb, hml, hown, hts⟩ (sX13_takes l dC dI _ ad ca sK sV g_71 a_72  hI (by omega)) (cwV 0 hts (jgoodV m_228 m_480 m_481 m_503 m_208) rfl rfl rfl (by decide +kernel) ⟨(Nat.le_of_ble_eq_true rfl), (Nat.le_of_ble_eq_true rfl)⟩) ⟨mP_blind, va_recv hK hP (ci := 13) (q0 := 0) rfl rfl, fun U hU hW => ⟨rfl, mP_of hU hW hP hK hD hXs hS (fun _ h => h) hA⟩⟩ rfl rfl hl.1 rfl (lv_room (Nat.le_of_ble_eq_true rfl)) dX13_begins_39 ⟨(Nat.le_of_ble_eq_true rfl), (Nat.le_of_ble_eq_true rfl)⟩) hD hS hA (fun r_100 u_111 H locs w_101 hP hK hD hS => ?_)
    obtain ⟨g_109, a_110⟩ := u_111
    obtain ⟨z_102, rfl, hI, hfr_112, hfr_113, h_103, h_104, h_105, h_106, h_107, h_108⟩ := w_101
    have hP : va_P (dC, dI) vwCl (mG ad ca g_109 a_110) H := hP
    have hD : va_D A (mG ad ca g_109 a_110) := hD
    have hfA : ∀ j, j ∉ ([2, 3, 4, 5, 7, 9] : List Nat) → g_109 j = g j := fun j h => (hfr_112 j (fun q => h (by first | exact q | (simp only [List.mem_cons, List.not_mem_nil, or_false] at q ⊢ <;> omega)))).trans (hfA j h)
    have b_115 : g_109 1 = g 1 := hfA 1 (by decide)
    have b_116 : g_109 8 = g 8 := hfA 8 (by decide)
    have b_117 : g_109 12 = g 12 := hfA 12 (by decide)
    have b_118 : g_109 15 = g 15 := hfA 15 (by decide)
    have b_119 := hfr_112 7 (by decide)
    have b_120 := hfr_112 9 (by decide)
    have haA : ∀ j, j ∉ ([2, 5] : List Nat) → a_110 j = a j := fun j h => (hfr_113 j (fun q => h (by first | exact q | (simp only [List.mem_cons, List.not_mem_nil, or_false] at q ⊢ <;> omega)))).trans (haA j h)
    have h_105 : g_71 2 ≤ g_109 2 := h_105
    have h_106 : g_109 2 ≤ g_71 1 := h_106
    have h_107 : g_109 3 = 0 ∨ g_71 2 + 1 ≤ g_109 2 := h_107
    have h_108 : g_109 4 ≤ g_109 2 := h_108
    have b_121 : g_109 1 = g_71 1 := hfr_112 1 (by decide)
    have b_122 : g_109 7 = g_71 7 := hfr_112 7 (by decide)
    have b_123 : g_109 8 = g_71 8 := hfr_112 8 (by decide)
    have b_124 : g_109 9 = g_71 9 := hfr_112 9 (by decide)
    have b_125 : g_109 12 = g_71 12 := hfr_112 12 (by decide)
    have b_126 : g_109 15 = g_71 15 := hfr_112 15 (by decide)
    have t_127 : a_110 2 = up (up (a 2) (g 7) 13) ((g 7 + 1)) p2 := (hfr_113 2 (by decide)).trans t_92
    have t_128 : a_110 3 = a 3 := (hfr_113 3 (by decide)).trans t_93
    have t_129 : a_110 4 = a 4 := (hfr_113 4 (by decide)).trans t_94
    have t_130 : a_110 5 = up (a 5) p1 (g 12) := (hfr_113 5 (by decide)).trans t_95
    have t_131 : a_110 6 = a 6 := (hfr_113 6 (by decide)).trans t_96
    have t_132 : a_110 7 = a 7 := (hfr_113 7 (by decide)).trans t_97
    have t_133 : a_110 8 = a 8 := (hfr_113 8 (by decide)).trans t_98
    have b_134 : 0 ≤ g_109 1 ∧ g_109 1 ≤ 600 := hI.1 1
    have b_135 : 0 ≤ g_109 2 ∧ g_109 2 ≤ 600 := hI.1 2
    rw [← hQ]
    exact W.zret (v := iI z_102) (ty := .boolean) hx hb hr (nb_bool (by omega) (by omega)) (fun t ht hW => ⟨⟨iI z_102, (g_109, a_110), rfl, ⟨z_102, rfl, hI, hfA, haA, by omega, by show z_102 = 0 ∨ (rPn g_109 a_110 (g_109 7) ∧ mz g_109 a_110 (g_109 7) ≤ mB g); first | exact Or.inl rfl | exact Or.inr (st_bg hrM (by omega) (by omega) (by omega) (by omega) (by omega) (by omega) (by omega) (by omega) (by omega) (by omega) t_128 t_129 t_130 t_131 t_132 t_133 ⟨by omega, by omega, by omega⟩ t_127)⟩, by rw [ht]; exact hP, va_K.moved hW.alike hK, hD⟩, hS.F ht⟩) hS.2.2 dX13_begins_42
  · refine lv_iconst (v := iI 0) hx hb dX13_begins_10 rfl ?_
    rw [← hQ]
    exact W.zret (v := iI 0) (ty := .boolean) hx hb hr (nb_bool (by omega) (by omega)) (fun t ht hW => ⟨⟨iI 0, (g, a), rfl, ⟨0, rfl, hI, hfA, haA, by omega, by show 0 = 0 ∨ (rPn g a (g 7) ∧ mz g a (g 7) ≤ mB g); first | exact Or.inl rfl | exact Or.inr (st_bg hrM (by omega) (by omega) (by omega) (by omega) (by omega) (by omega) (by omega) (by omega) (by omega) (by omega) rfl rfl rfl rfl rfl rfl ⟨by omega, by omega, by omega⟩ rfl)⟩, by rw [ht]; exact hP, va_K.moved hW.alike hK, hD⟩, hS.F ht⟩) hS.2.2 dX13_begins_11
set_option maxHeartbeats 2000000 in
set_option maxRecDepth 100000 in
theorem sX13_skip (l : Launch) (dC : Nat → ClassId) (dI : Nat → Nat → Nat) (sz : Nat) (ad : Nat → Nat) (ca : Nat → ClassId) (sK sV : Nat → Nat) (g : Nat → Int) (a : Nat → Int → Int) (hI : mI g a) (hrM : rM g a) : Met l yX13_skip (jk yX13_skip cX13_skip 1 (some .boolean)) ({ frames := 7, cells := 0, slots := 0, locals := 153 }) (va_Pc [.ref (ad 0)] (mP (dC, dI) (mG ad ca g a) (mT ca) sK sV sz)) (va_Qi (fun (r : Int32) (u : (Nat → Int) × (Nat → Int → Int)) => ∃ z : Int, r = iI z ∧ (mI u.1 u.2) ∧ (∀ j, j ∉ ([2, 3, 4, 5, 15] : List Nat) → u.1 j = g j) ∧ (∀ j, j ∉ ([7, 8] : List Nat) → u.2 j = a j) ∧ (0 ≤ z ∧ z ≤ 1) ∧ (z = 0 ∨ (rPn u.1 u.2 (u.1 7) ∧ mz u.1 u.2 (u.1 7) ≤ mB g))) (fun u t => va_P (dC, dI) vwCl (mG ad ca u.1 u.2) t.heap ∧ va_K (dC, dI) vwCl (mT ca) t ∧ va_D (va_A (mG ad ca g a) sz) (mG ad ca u.1 u.2)) (va_A (mG ad ca g a) sz)) 0 0 (va_A (mG ad ca g a) sz) := by
  refine Met.ofW (cc := cX13_skip) (maxL := 1) (ret := (some .boolean)) (by decide) rfl ?_
  intro p e s m args below meth c s₁ B hml hv
  obtain ⟨rfl, ⟨hsz, hP, hK, hD0⟩, hX0⟩ := hv
  have hx := B.exec
  have hb := B.bytes
  have hr := B.returns
  have hts := atoms_spec (ws := (jk yX13_skip cX13_skip 1 (some .boolean))) B.pre
  have hj : ∀ w ∈ jw, w.before ([.ref (ad 0)] : List Value).toArray s = true := fun w h => hts w (jm h)
  have hown : s.vm.findClass RX13 = some m.cls := findClass_of_methodNamed B.named
  subst hsz
  have hD := hD0.self (sz := s.heap.size)
  have hXs := hX0
  generalize hAe : (va_A (mG ad ca g a) s.heap.size) = A at hD hXs ⊢
  have hA : ∀ q : Nat, s.heap.size ≤ q → A q := fun q h => by rw [← hAe]; exact Or.inr h
  have hS : va_S A s.heap s.heap [] := va_S.rf
  have hP : va_P (dC, dI) vwCl (mG ad ca g a) s.heap := hP
  have hfA : ∀ j, j ∉ ([2, 3, 4, 5, 15] : List Nat) → g j = g j := fun _ _ => rfl
  have haA : ∀ j, j ∉ ([7, 8] : List Nat) → a j = a j := fun _ _ => rfl
  have hl := lv_entry ([.ref (ad 0)]) (n := 1) (Nat.le_of_ble_eq_true rfl)
  rw [lg_entry_eq]
  generalize (lg_sl ([.ref (ad 0)]) ++ List.replicate (1 - (lg_sl ([.ref (ad 0)])).length) Slot.unset).toArray = ls at hl ⊢
  have hl : lv_has ls 1 [(0, .ref (ad 0))] := hl
  generalize hQ : MQ below (va_Qi (fun (r : Int32) (u : (Nat → Int) × (Nat → Int → Int)) => ∃ z : Int, r = iI z ∧ (mI u.1 u.2) ∧ (∀ j, j ∉ ([2, 3, 4, 5, 15] : List Nat) → u.1 j = g j) ∧ (∀ j, j ∉ ([7, 8] : List Nat) → u.2 j = a j) ∧ (0 ≤ z ∧ z ≤ 1) ∧ (z = 0 ∨ (rPn u.1 u.2 (u.1 7) ∧ mz u.1 u.2 (u.1 7) ≤ mB g))) (fun u t => va_P (dC, dI) vwCl (mG ad ca u.1 u.2) t.heap ∧ va_K (dC, dI) vwCl (mT ca) t ∧ va_D A (mG ad ca u.1 u.2)) A) ([.ref (ad 0)] : List Value).toArray s 0 0 A = Q
  suffices ST : ∀ (H : Heap) (locs : List Loc), va_P (dC, dI) vwCl (mG ad ca g a) H → va_S A s.heap H locs → W p l e ({ frames := 7, cells := 0, slots := 0, locals := 153 }) s m ([.ref (ad 0)] : List Value).toArray below meth c H locs 0 0 Q (F0 m 0 ls []) from ST _ _ hP hS
  clear hP hS
  intro H locs hP hS
  obtain ⟨m1, m2, m3, m4, m5, m6, m7, m8, -, -⟩ := id hrM
  have b1_0 : 0 ≤ g 1 ∧ g 1 ≤ 600 := hI.1 1
  have b2_0 : 0 ≤ g 2 ∧ g 2 ≤ 600 := hI.1 2
  refine lv_aload_n hx hb dX13_skip_0 rfl (lv_at hl 0 rfl) ?_
  refine jcg_v (va_runV (As := []) (rest := []) ⟨hx, hb, hml, hown, hts⟩ (sX13_next l dC dI _ ad ca sK sV g a  hI (by omega)) (cwV 0 hts (jgoodV m_224 m_433 m_434 m_503 m_184) rfl rfl rfl (by decide +kernel) ⟨(Nat.le_of_ble_eq_true rfl), (Nat.le_of_ble_eq_true rfl)⟩) ⟨mP_blind, va_recv hK hP (ci := 13) (q0 := 0) rfl rfl, fun U hU hW => ⟨rfl, mP_of hU hW hP hK hD hXs hS (fun _ h => h) hA⟩⟩ rfl rfl hl.1 rfl (lv_room (Nat.le_of_ble_eq_true rfl)) dX13_skip_1 ⟨(Nat.le_of_ble_eq_true rfl), (Nat.le_of_ble_eq_true rfl)⟩) hD hS hA (fun u_10 H locs w_2 hP hK hD hS => ?_)
  obtain ⟨g_8, a_9⟩ := u_10
  obtain ⟨hI, hfr_11, hfr_12, h_4, h_5, h_6, h_7⟩ := w_2
  have hP : va_P (dC, dI) vwCl (mG ad ca g_8 a_9) H := hP
  have hD : va_D A (mG ad ca g_8 a_9) := hD
  have hfA : ∀ j, j ∉ ([2, 3, 4, 5, 15] : List Nat) → g_8 j = g j := fun j h => (hfr_11 j (fun q => h (by first | exact q | (simp only [List.mem_cons, List.not_mem_nil, or_false] at q ⊢ <;> omega)))).trans (hfA j h)
  have b_14 : g_8 1 = g 1 := hfA 1 (by decide)
  have b_15 : g_8 7 = g 7 := hfA 7 (by decide)
  have b_16 : g_8 8 = g 8 := hfA 8 (by decide)
  have b_17 : g_8 9 = g 9 := hfA 9 (by decide)
  have b_18 : g_8 12 = g 12 := hfA 12 (by decide)
  have b_19 := hfr_11 15 (by decide)
  have haA : ∀ j, j ∉ ([7, 8] : List Nat) → a_9 j = a j := fun j h => (hfr_12 j (fun q => h (by first | exact q | (simp only [List.mem_cons, List.not_mem_nil, or_false] at q ⊢ <;> omega)))).trans (haA j h)
  have h_4 : g 2 ≤ g_8 2 := h_4
  have h_5 : g_8 2 ≤ g 1 := h_5
  have h_6 : g_8 3 = 0 ∨ g 2 + 1 ≤ g_8 2 := h_6
  have h_7 : g_8 4 ≤ g_8 2 := h_7
  have b_20 : g_8 1 = g 1 := hfr_11 1 (by decide)
  have b_21 : g_8 7 = g 7 := hfr_11 7 (by decide)
  have b_22 : g_8 8 = g 8 := hfr_11 8 (by decide)
  have b_23 : g_8 9 = g 9 := hfr_11 9 (by decide)
  have b_24 : g_8 12 = g 12 := hfr_11 12 (by decide)
  have b_25 : g_8 15 = g 15 := hfr_11 15 (by decide)
  have t_26 : a_9 2 = a 2 := (hfr_12 2 (by decide)).trans rfl
  have t_27 : a_9 3 = a 3 := (hfr_12 3 (by decide)).trans rfl
  have t_28 : a_9 4 = a 4 := (hfr_12 4 (by decide)).trans rfl
  have t_29 : a_9 5 = a 5 := (hfr_12 5 (by decide)).trans rfl
  have t_30 : a_9 6 = a 6 := (hfr_12 6 (by decide)).trans rfl
  have t_31 : a_9 7 = a 7 := (hfr_12 7 (by decide)).trans rfl
  have t_32 : a_9 8 = a 8 := (hfr_12 8 (by decide)).trans rfl
  have b_33 : 0 ≤ g_8 1 ∧ g_8 1 ≤ 600 := hI.1 1
  have b_34 : 0 ≤ g_8 2 ∧ g_8 2 ≤ 600 := hI.1 2
  refine lv_aload_n hx hb dX13_skip_4 rfl (lv_at hl 0 rfl) ?_
  refine gf_token hx hb hj hown hK hP hI dX13_skip_5 (fun h_35 => ?_)
  refine lv_iconst (v := iI 2) hx hb dX13_skip_8 rfl ?_
  refine xr_icmp_ne (tgt := 34) hx hb dX13_skip_9 (by decide) (by omega) (by omega) (fun h_36 => ?_) (fun h_36 => ?_)
  · refine lv_iconst (v := iI 0) hx hb dX13_skip_34 rfl ?_
    rw [← hQ]
    exact W.zret (v := iI 0) (ty := .boolean) hx hb hr (nb_bool (by omega) (by omega)) (fun t ht hW => ⟨⟨iI 0, (g_8, a_9), rfl, ⟨0, rfl, hI, hfA, haA, by omega, by show 0 = 0 ∨ (rPn g_8 a_9 (g_8 7) ∧ mz g_8 a_9 (g_8 7) ≤ mB g); first | exact Or.inl rfl | exact Or.inr (st_sk (g1 := g_8) hrM (by omega) (by omega) (by omega) (by omega) (by omega) (by omega) (by omega) t_27 t_28 t_29 t_30 t_31 t_32 (by omega) (by omega) ⟨by omega, by omega, by omega⟩ ⟨by omega, by omega, by omega⟩ t_26)⟩, by rw [ht]; exact hP, va_K.moved hW.alike hK, hD⟩, hS.F ht⟩) hS.2.2 dX13_skip_35
  · refine lv_aload_n hx hb dX13_skip_12 rfl (lv_at hl 0 rfl) ?_
    refine gf_at hx hb hj hown hK hP hI dX13_skip_13 (fun h_37 => ?_)
    refine lv_aload_n hx hb dX13_skip_16 rfl (lv_at hl 0 rfl) ?_
    refine gf_tokenAt hx hb hj hown hK hP hI dX13_skip_17 (fun h_38 => ?_)
    refine xr_sub hx hb dX13_skip_20 ?_
    refine lv_bipush (v := iI 8) hx hb dX13_skip_21 rfl ?_
    refine xr_icmp_gt (tgt := 34) hx hb dX13_skip_23 (by decide) (by omega) (by omega) (fun h_39 => ?_) (fun h_39 => ?_)
    · refine lv_iconst (v := iI 0) hx hb dX13_skip_34 rfl ?_
      rw [← hQ]
      exact W.zret (v := iI 0) (ty := .boolean) hx hb hr (nb_bool (by omega) (by omega)) (fun t ht hW => ⟨⟨iI 0, (g_8, a_9), rfl, ⟨0, rfl, hI, hfA, haA, by omega, by show 0 = 0 ∨ (rPn g_8 a_9 (g_8 7) ∧ mz g_8 a_9 (g_8 7) ≤ mB g); first | exact Or.inl rfl | exact Or.inr (st_sk (g1 := g_8) hrM (by omega) (by omega) (by omega) (by omega) (by omega) (by omega) (by omega) t_27 t_28 t_29 t_30 t_31 t_32 (by omega) (by omega) ⟨by omega, by omega, by omega⟩ ⟨by omega, by omega, by omega⟩ t_26)⟩, by rw [ht]; exact hP, va_K.moved hW.alike hK, hD⟩, hS.F ht⟩) hS.2.2 dX13_skip_35
    · refine lv_aload_n hx hb dX13_skip_26 rfl (lv_at hl 0 rfl) ?_
      refine gf_skips hx hb hj hown hK hP hI dX13_skip_27 (fun h_40 => ?_)
      refine lv_iconst (v := iI 4) hx hb dX13_skip_30 rfl ?_
      refine xr_icmp_ne (tgt := 36) hx hb dX13_skip_31 (by decide) (by omega) (by omega) (fun h_41 => ?_) (fun h_41 => ?_)
      · refine lv_aload_n hx hb dX13_skip_36 rfl (lv_at hl 0 rfl) ?_
        refine gf_skipAt hx hb hj hown hK hP dX13_skip_37 ?_
        refine lv_aload_n hx hb dX13_skip_40 rfl (lv_at hl 0 rfl) ?_
        refine gf_skips hx hb hj hown hK hP hI dX13_skip_41 (fun h_42 => ?_)
        refine lv_aload_n hx hb dX13_skip_44 rfl (lv_at hl 0 rfl) ?_
        refine gf_tokenAt hx hb hj hown hK hP hI dX13_skip_45 (fun h_43 => ?_)
        refine st_skipAt hx hb hK hP hD hS hI (by omega) (by omega) (by omega) (by omega) dX13_skip_48 (fun a_44 H locs e_45 e_46 hI hP hD hS => ?_)
        have haA : ∀ j, j ∉ ([7, 8] : List Nat) → a_44 j = a j := fun j h => (e_45 j (fun q => h (q ▸ (by decide : 7 ∈ ([7, 8] : List Nat))))).trans (haA j h)
        have t_47 : a_44 2 = a 2 := (e_45 2 (by decide)).trans t_26
        have t_48 : a_44 3 = a 3 := (e_45 3 (by decide)).trans t_27
        have t_49 : a_44 4 = a 4 := (e_45 4 (by decide)).trans t_28
        have t_50 : a_44 5 = a 5 := (e_45 5 (by decide)).trans t_29
        have t_51 : a_44 6 = a 6 := (e_45 6 (by decide)).trans t_30
        have t_52 : a_44 7 = up (a 7) (g 15) (g_8 4) := e_46.trans (up_c t_31 (by omega) (by omega))
        have t_53 : a_44 8 = a 8 := (e_45 8 (by decide)).trans t_32
        refine lv_aload_n hx hb dX13_skip_49 rfl (lv_at hl 0 rfl) ?_
        refine gf_skipLong hx hb hj hown hK hP dX13_skip_50 ?_
        refine lv_aload_n hx hb dX13_skip_53 rfl (lv_at hl 0 rfl) ?_
        refine gf_skips hx hb hj hown hK hP hI dX13_skip_54 (fun h_54 => ?_)
        refine lv_aload_n hx hb dX13_skip_57 rfl (lv_at hl 0 rfl) ?_
        refine gf_at hx hb hj hown hK hP hI dX13_skip_58 (fun h_55 => ?_)
        refine lv_aload_n hx hb dX13_skip_61 rfl (lv_at hl 0 rfl) ?_
        refine gf_tokenAt hx hb hj hown hK hP hI dX13_skip_62 (fun h_56 => ?_)
        refine xr_sub hx hb dX13_skip_65 ?_
        refine st_skipLong hx hb hK hP hD hS hI (by omega) (by omega) (by omega) (by omega) dX13_skip_66 (fun a_57 H locs e_58 e_59 hI hP hD hS => ?_)
        have haA : ∀ j, j ∉ ([7, 8] : List Nat) → a_57 j = a j := fun j h => (e_58 j (fun q => h (q ▸ (by decide : 8 ∈ ([7, 8] : List Nat))))).trans (haA j h)
        have t_60 : a_57 2 = a 2 := (e_58 2 (by decide)).trans t_47
        have t_61 : a_57 3 = a 3 := (e_58 3 (by decide)).trans t_48
        have t_62 : a_57 4 = a 4 := (e_58 4 (by decide)).trans t_49
        have t_63 : a_57 5 = a 5 := (e_58 5 (by decide)).trans t_50
        have t_64 : a_57 6 = a 6 := (e_58 6 (by decide)).trans t_51
        have t_65 : a_57 7 = up (a 7) (g 15) (g_8 4) := (e_58 7 (by decide)).trans t_52
        have t_66 : a_57 8 = up (a 8) (g 15) (((g_8 2)) - ((g_8 4))) := e_59.trans (up_c t_53 (by omega) (by omega))
        refine lv_aload_n hx hb dX13_skip_67 rfl (lv_at hl 0 rfl) ?_
        refine lv_dup hx hb dX13_skip_68 rfl ?_
        refine gf_skips hx hb hj hown hK hP hI dX13_skip_69 (fun h_67 => ?_)
        refine lv_iconst (v := iI 1) hx hb dX13_skip_72 rfl ?_
        refine xr_add hx hb dX13_skip_73 ?_
        refine pf_skips hx hb hj hown hK hP hD hS hI (by omega) (by omega) dX13_skip_74 (fun g_68 H locs e_69 e_70 hI hP hD hS => ?_)
        have hfA : ∀ j, j ∉ ([2, 3, 4, 5, 15] : List Nat) → g_68 j = g j := fun j h => (e_69 j (fun q => h (q ▸ (by decide : 15 ∈ ([2, 3, 4, 5, 15] : List Nat))))).trans (hfA j h)
        have b_71 := e_69 2 (by decide)
        have b_72 := e_69 3 (by decide)
        have b_73 := e_69 4 (by decide)
        have b_74 : g_68 1 = g 1 := hfA 1 (by decide)
        have b_75 : g_68 7 = g 7 := hfA 7 (by decide)
        have b_76 : g_68 8 = g 8 := hfA 8 (by decide)
        have b_77 : g_68 9 = g 9 := hfA 9 (by decide)
        have b_78 : g_68 12 = g 12 := hfA 12 (by decide)
        have b_79 := e_69 1 (by decide)
        have b_80 := e_69 2 (by decide)
        have b_81 := e_69 3 (by decide)
        have b_82 := e_69 4 (by decide)
        have b_83 := e_69 7 (by decide)
        have b_84 := e_69 8 (by decide)
        have b_85 := e_69 9 (by decide)
        have b_86 := e_69 12 (by decide)
        refine lv_aload_n hx hb dX13_skip_77 rfl (lv_at hl 0 rfl) ?_
        refine jcg_i (va_runV (As := []) (rest := []) ⟨hx, hb, hml, hown, hts⟩ (sX13_takes l dC dI _ ad ca sK sV g_68 a_57  hI (by omega)) (cwV 0 hts (jgoodV m_228 m_480 m_481 m_503 m_208) rfl rfl rfl (by decide +kernel) ⟨(Nat.le_of_ble_eq_true rfl), (Nat.le_of_ble_eq_true rfl)⟩) ⟨mP_blind, va_recv hK hP (ci := 13) (q0 := 0) rfl rfl, fun U hU hW => ⟨rfl, mP_of hU hW hP hK hD hXs hS (fun _ h => h) hA⟩⟩ rfl rfl hl.1 rfl (lv_room (Nat.le_of_ble_eq_true rfl)) dX13_skip_78 ⟨(Nat.le_of_ble_eq_true rfl), (Nat.le_of_ble_eq_true rfl)⟩) hD hS hA (fun r_87 u_98 H locs w_88 hP hK hD hS => ?_)
        obtain ⟨g_96, a_97⟩ := u_98
        obtain ⟨z_89, rfl, hI, hfr_99, hfr_100, h_90, h_91, h_92, h_93, h_94, h_95⟩ := w_88
        have hP : va_P (dC, dI) vwCl (mG ad ca g_96 a_97) H := hP
        have hD : va_D A (mG ad ca g_96 a_97) := hD
        have hfA : ∀ j, j ∉ ([2, 3, 4, 5, 15] : List Nat) → g_96 j = g j := fun j h => (hfr_99 j (fun q => h (by first | exact q | (simp only [List.mem_cons, List.not_mem_nil, or_false] at q ⊢ <;> omega)))).trans (hfA j h)
        have b_102 : g_96 1 = g 1 := hfA 1 (by decide)
        have b_103 : g_96 7 = g 7 := hfA 7 (by decide)
        have b_104 : g_96 8 = g 8 := hfA 8 (by decide)
        have b_105 : g_96 9 = g 9 := hfA 9 (by decide)
        have b_106 : g_96 12 = g 12 := hfA 12 (by decide)
        have b_107 := hfr_99 15 (by decide)
        have haA : ∀ j, j ∉ ([7, 8] : List Nat) → a_97 j = a j := fun j h => (hfr_100 j (fun q => h (by first | exact q | (simp only [List.mem_cons, List.not_mem_nil, or_false] at q ⊢ <;> omega)))).trans (haA j h)
        have h_92 : g_68 2 ≤ g_96 2 := h_92
        have h_93 : g_96 2 ≤ g_68 1 := h_93
        have h_94 : g_96 3 = 0 ∨ g_68 2 + 1 ≤ g_96 2 := h_94
        have h_95 : g_96 4 ≤ g_96 2 := h_95
        have b_108 : g_96 1 = g_68 1 := hfr_99 1 (by decide)
        have b_109 : g_96 7 = g_68 7 := hfr_99 7 (by decide)
        have b_110 : g_96 8 = g_68 8 := hfr_99 8 (by decide)
        have b_111 : g_96 9 = g_68 9 := hfr_99 9 (by decide)
        have b_112 : g_96 12 = g_68 12 := hfr_99 12 (by decide)
        have b_113 : g_96 15 = g_68 15 := hfr_99 15 (by decide)
        have t_114 : a_97 2 = a 2 := (hfr_100 2 (by decide)).trans t_60
        have t_115 : a_97 3 = a 3 := (hfr_100 3 (by decide)).trans t_61
        have t_116 : a_97 4 = a 4 := (hfr_100 4 (by decide)).trans t_62
        have t_117 : a_97 5 = a 5 := (hfr_100 5 (by decide)).trans t_63
        have t_118 : a_97 6 = a 6 := (hfr_100 6 (by decide)).trans t_64
        have t_119 : a_97 7 = up (a 7) (g 15) (g_8 4) := (hfr_100 7 (by decide)).trans t_65
        have t_120 : a_97 8 = up (a 8) (g 15) (((g_8 2)) - ((g_8 4))) := (hfr_100 8 (by decide)).trans t_66
        have b_121 : 0 ≤ g_96 1 ∧ g_96 1 ≤ 600 := hI.1 1
        have b_122 : 0 ≤ g_96 2 ∧ g_96 2 ≤ 600 := hI.1 2
        rw [← hQ]
        exact W.zret (v := iI z_89) (ty := .boolean) hx hb hr (nb_bool (by omega) (by omega)) (fun t ht hW => ⟨⟨iI z_89, (g_96, a_97), rfl, ⟨z_89, rfl, hI, hfA, haA, by omega, by show z_89 = 0 ∨ (rPn g_96 a_97 (g_96 7) ∧ mz g_96 a_97 (g_96 7) ≤ mB g); first | exact Or.inl rfl | exact Or.inr (st_sk (g1 := g_8) hrM (by omega) (by omega) (by omega) (by omega) (by omega) (by omega) (by omega) t_115 t_116 t_117 t_118 t_119 t_120 (by omega) (by omega) ⟨by omega, by omega, by omega⟩ ⟨by omega, by omega, by omega⟩ t_114)⟩, by rw [ht]; exact hP, va_K.moved hW.alike hK, hD⟩, hS.F ht⟩) hS.2.2 dX13_skip_81
      · refine lv_iconst (v := iI 0) hx hb dX13_skip_34 rfl ?_
        rw [← hQ]
        exact W.zret (v := iI 0) (ty := .boolean) hx hb hr (nb_bool (by omega) (by omega)) (fun t ht hW => ⟨⟨iI 0, (g_8, a_9), rfl, ⟨0, rfl, hI, hfA, haA, by omega, by show 0 = 0 ∨ (rPn g_8 a_9 (g_8 7) ∧ mz g_8 a_9 (g_8 7) ≤ mB g); first | exact Or.inl rfl | exact Or.inr (st_sk (g1 := g_8) hrM (by omega) (by omega) (by omega) (by omega) (by omega) (by omega) (by omega) t_27 t_28 t_29 t_30 t_31 t_32 (by omega) (by omega) ⟨by omega, by omega, by omega⟩ ⟨by omega, by omega, by omega⟩ t_26)⟩, by rw [ht]; exact hP, va_K.moved hW.alike hK, hD⟩, hS.F ht⟩) hS.2.2 dX13_skip_35
set_option maxHeartbeats 2000000 in
set_option maxRecDepth 100000 in
theorem sX13_choice (l : Launch) (dC : Nat → ClassId) (dI : Nat → Nat → Nat) (sz : Nat) (ad : Nat → Nat) (ca : Nat → ClassId) (sK sV : Nat → Nat) (g : Nat → Int) (a : Nat → Int → Int) (p1 : Int) (hI : mI g a) (q1 : rg p1) (k1 : p1 = 1 ∨ p1 = 2) (hrM : rM g a) : Met l yX13_choice (jk yX13_choice cX13_choice 5 (some .boolean)) ({ frames := 7, cells := 0, slots := 0, locals := 153 }) (va_Pc [.ref (ad 0), .int (iI p1)] (mP (dC, dI) (mG ad ca g a) (mT ca) sK sV sz)) (va_Qi (fun (r : Int32) (u : (Nat → Int) × (Nat → Int → Int)) => ∃ z : Int, r = iI z ∧ (mI u.1 u.2) ∧ (∀ j, j ∉ ([2, 3, 4, 5, 12] : List Nat) → u.1 j = g j) ∧ (∀ j, j ∉ ([3, 4, 5, 6] : List Nat) → u.2 j = a j) ∧ (0 ≤ z ∧ z ≤ 1) ∧ (z = 0 ∨ (rPn u.1 u.2 (u.1 7) ∧ mz u.1 u.2 (u.1 7) ≤ mB g))) (fun u t => va_P (dC, dI) vwCl (mG ad ca u.1 u.2) t.heap ∧ va_K (dC, dI) vwCl (mT ca) t ∧ va_D (va_A (mG ad ca g a) sz) (mG ad ca u.1 u.2)) (va_A (mG ad ca g a) sz)) 0 0 (va_A (mG ad ca g a) sz) := by
  refine Met.ofW (cc := cX13_choice) (maxL := 5) (ret := (some .boolean)) (by decide) rfl ?_
  intro p e s m args below meth c s₁ B hml hv
  obtain ⟨rfl, ⟨hsz, hP, hK, hD0⟩, hX0⟩ := hv
  have hx := B.exec
  have hb := B.bytes
  have hr := B.returns
  have hts := atoms_spec (ws := (jk yX13_choice cX13_choice 5 (some .boolean))) B.pre
  have hj : ∀ w ∈ jw, w.before ([.ref (ad 0), .int (iI p1)] : List Value).toArray s = true := fun w h => hts w (jm h)
  have hown : s.vm.findClass RX13 = some m.cls := findClass_of_methodNamed B.named
  subst hsz
  have hD := hD0.self (sz := s.heap.size)
  have hXs := hX0
  generalize hAe : (va_A (mG ad ca g a) s.heap.size) = A at hD hXs ⊢
  have hA : ∀ q : Nat, s.heap.size ≤ q → A q := fun q h => by rw [← hAe]; exact Or.inr h
  have hS : va_S A s.heap s.heap [] := va_S.rf
  have hP : va_P (dC, dI) vwCl (mG ad ca g a) s.heap := hP
  have hfA : ∀ j, j ∉ ([2, 3, 4, 5, 12] : List Nat) → g j = g j := fun _ _ => rfl
  have haA : ∀ j, j ∉ ([3, 4, 5, 6] : List Nat) → a j = a j := fun _ _ => rfl
  have hl := lv_entry ([.ref (ad 0), .int (iI p1)]) (n := 5) (Nat.le_of_ble_eq_true rfl)
  rw [lg_entry_eq]
  generalize (lg_sl ([.ref (ad 0), .int (iI p1)]) ++ List.replicate (5 - (lg_sl ([.ref (ad 0), .int (iI p1)])).length) Slot.unset).toArray = ls at hl ⊢
  have hl : lv_has ls 5 [(0, .ref (ad 0)), (1, .int (iI p1))] := hl
  generalize hQ : MQ below (va_Qi (fun (r : Int32) (u : (Nat → Int) × (Nat → Int → Int)) => ∃ z : Int, r = iI z ∧ (mI u.1 u.2) ∧ (∀ j, j ∉ ([2, 3, 4, 5, 12] : List Nat) → u.1 j = g j) ∧ (∀ j, j ∉ ([3, 4, 5, 6] : List Nat) → u.2 j = a j) ∧ (0 ≤ z ∧ z ≤ 1) ∧ (z = 0 ∨ (rPn u.1 u.2 (u.1 7) ∧ mz u.1 u.2 (u.1 7) ≤ mB g))) (fun u t => va_P (dC, dI) vwCl (mG ad ca u.1 u.2) t.heap ∧ va_K (dC, dI) vwCl (mT ca) t ∧ va_D A (mG ad ca u.1 u.2)) A) ([.ref (ad 0), .int (iI p1)] : List Value).toArray s 0 0 A = Q
  suffices ST : ∀ (H : Heap) (locs : List Loc), va_P (dC, dI) vwCl (mG ad ca g a) H → va_S A s.heap H locs → W p l e ({ frames := 7, cells := 0, slots := 0, locals := 153 }) s m ([.ref (ad 0), .int (iI p1)] : List Value).toArray below meth c H locs 0 0 Q (F0 m 0 ls []) from ST _ _ hP hS
  clear hP hS
  intro H locs hP hS
  obtain ⟨m1, m2, m3, m4, m5, m6, m7, m8, -, -⟩ := id hrM
  have b1_0 : 0 ≤ g 1 ∧ g 1 ≤ 600 := hI.1 1
  have b2_0 : 0 ≤ g 2 ∧ g 2 ≤ 600 := hI.1 2
  refine lv_iload_n hx hb dX13_choice_0 rfl (lv_at hl 1 rfl) ?_
  refine lv_iconst (v := iI 1) hx hb dX13_choice_1 rfl ?_
  have J10 : ∀ (s0_10 : Int) (H : Heap) (locs : List Loc) (ls : Array Slot), (0 ≤ s0_10 ∧ s0_10 ≤ 1) → (0 ≤ s0_10 ∧ s0_10 ≤ 1) → va_P (dC, dI) vwCl (mG ad ca g a) H → va_D A (mG ad ca g a) → va_S A s.heap H locs → lv_has ls 5 [(0, .ref (ad 0)), (1, .int (iI p1))] → W p l e ({ frames := 7, cells := 0, slots := 0, locals := 153 }) s m ([.ref (ad 0), .int (iI p1)] : List Value).toArray below meth c H locs 0 0 Q (F0 m 10 ls [.int (iI s0_10)]) := by
    intro s0_10 H locs ls h_1 h_2 hP hD hS hl
    refine lv_istore_n (lv' := [(2, .int (iI s0_10)), (0, .ref (ad 0)), (1, .int (iI p1))]) hx hb dX13_choice_10 rfl hl (by decide) rfl (fun ls hl => ?_)
    refine lv_aload_n hx hb dX13_choice_11 rfl (lv_at hl 1 rfl) ?_
    refine gf_slotBegin hx hb hj hown hK hP dX13_choice_12 ?_
    refine lv_iload_n hx hb dX13_choice_15 rfl (lv_at hl 0 rfl) ?_
    refine ld_slotBegin hx hb hK hP hI (by omega) (by omega) dX13_choice_16 (fun h_3 => ?_)
    refine lv_iconst (v := iI (-1)) hx hb dX13_choice_17 rfl ?_
    refine xr_icmp_eq (tgt := 23) hx hb dX13_choice_18 (by decide) (by omega) (by omega) (fun h_4 => ?_) (fun h_4 => ?_)
    · refine lv_aload_n hx hb dX13_choice_23 rfl (lv_at hl 1 rfl) ?_
      refine jcg_v (va_runV (As := []) (rest := []) ⟨hx, hb, hml, hown, hts⟩ (sX13_next l dC dI _ ad ca sK sV g a  hI (by omega)) (cwV 0 hts (jgoodV m_224 m_433 m_434 m_503 m_184) rfl rfl rfl (by decide +kernel) ⟨(Nat.le_of_ble_eq_true rfl), (Nat.le_of_ble_eq_true rfl)⟩) ⟨mP_blind, va_recv hK hP (ci := 13) (q0 := 0) rfl rfl, fun U hU hW => ⟨rfl, mP_of hU hW hP hK hD hXs hS (fun _ h => h) hA⟩⟩ rfl rfl hl.1 rfl (lv_room (Nat.le_of_ble_eq_true rfl)) dX13_choice_24 ⟨(Nat.le_of_ble_eq_true rfl), (Nat.le_of_ble_eq_true rfl)⟩) hD hS hA (fun u_14 H locs w_6 hP hK hD hS => ?_)
      obtain ⟨g_12, a_13⟩ := u_14
      obtain ⟨hI, hfr_15, hfr_16, h_8, h_9, h_10, h_11⟩ := w_6
      have hP : va_P (dC, dI) vwCl (mG ad ca g_12 a_13) H := hP
      have hD : va_D A (mG ad ca g_12 a_13) := hD
      have hfA : ∀ j, j ∉ ([2, 3, 4, 5, 12] : List Nat) → g_12 j = g j := fun j h => (hfr_15 j (fun q => h (by first | exact q | (simp only [List.mem_cons, List.not_mem_nil, or_false] at q ⊢ <;> omega)))).trans (hfA j h)
      have b_18 : g_12 1 = g 1 := hfA 1 (by decide)
      have b_19 : g_12 7 = g 7 := hfA 7 (by decide)
      have b_20 : g_12 8 = g 8 := hfA 8 (by decide)
      have b_21 : g_12 9 = g 9 := hfA 9 (by decide)
      have b_22 : g_12 15 = g 15 := hfA 15 (by decide)
      have b_23 := hfr_15 12 (by decide)
      have haA : ∀ j, j ∉ ([3, 4, 5, 6] : List Nat) → a_13 j = a j := fun j h => (hfr_16 j (fun q => h (by first | exact q | (simp only [List.mem_cons, List.not_mem_nil, or_false] at q ⊢ <;> omega)))).trans (haA j h)
      have h_8 : g 2 ≤ g_12 2 := h_8
      have h_9 : g_12 2 ≤ g 1 := h_9
      have h_10 : g_12 3 = 0 ∨ g 2 + 1 ≤ g_12 2 := h_10
      have h_11 : g_12 4 ≤ g_12 2 := h_11
      have b_24 : g_12 1 = g 1 := hfr_15 1 (by decide)
      have b_25 : g_12 7 = g 7 := hfr_15 7 (by decide)
      have b_26 : g_12 8 = g 8 := hfr_15 8 (by decide)
      have b_27 : g_12 9 = g 9 := hfr_15 9 (by decide)
      have b_28 : g_12 12 = g 12 := hfr_15 12 (by decide)
      have b_29 : g_12 15 = g 15 := hfr_15 15 (by decide)
      have t_30 : a_13 2 = a 2 := (hfr_16 2 (by decide)).trans rfl
      have t_31 : a_13 3 = a 3 := (hfr_16 3 (by decide)).trans rfl
      have t_32 : a_13 4 = a 4 := (hfr_16 4 (by decide)).trans rfl
      have t_33 : a_13 5 = a 5 := (hfr_16 5 (by decide)).trans rfl
      have t_34 : a_13 6 = a 6 := (hfr_16 6 (by decide)).trans rfl
      have t_35 : a_13 7 = a 7 := (hfr_16 7 (by decide)).trans rfl
      have t_36 : a_13 8 = a 8 := (hfr_16 8 (by decide)).trans rfl
      have b_37 : 0 ≤ g_12 1 ∧ g_12 1 ≤ 600 := hI.1 1
      have b_38 : 0 ≤ g_12 2 ∧ g_12 2 ≤ 600 := hI.1 2
      refine lv_iload_n hx hb dX13_choice_27 rfl (lv_at hl 2 rfl) ?_
      refine lv_iconst (v := iI 1) hx hb dX13_choice_28 rfl ?_
      have J39 : ∀ (s0_39 : Int) (H : Heap) (locs : List Loc) (ls : Array Slot), (9 ≤ s0_39 ∧ s0_39 ≤ 11) → va_P (dC, dI) vwCl (mG ad ca g_12 a_13) H → va_D A (mG ad ca g_12 a_13) → va_S A s.heap H locs → lv_has ls 5 [(2, .int (iI s0_10)), (0, .ref (ad 0)), (1, .int (iI p1))] → W p l e ({ frames := 7, cells := 0, slots := 0, locals := 153 }) s m ([.ref (ad 0), .int (iI p1)] : List Value).toArray below meth c H locs 0 0 Q (F0 m 39 ls [.int (iI s0_39)]) := by
        intro s0_39 H locs ls h_39 hP hD hS hl
        refine lv_istore_n (lv' := [(3, .int (iI s0_39)), (2, .int (iI s0_10)), (0, .ref (ad 0)), (1, .int (iI p1))]) hx hb dX13_choice_39 rfl hl (by decide) rfl (fun ls hl => ?_)
        refine lv_iload_n hx hb dX13_choice_40 rfl (lv_at hl 3 rfl) ?_
        refine lv_iconst (v := iI 1) hx hb dX13_choice_41 rfl ?_
        have J52 : ∀ (s0_52 : Int) (H : Heap) (locs : List Loc) (ls : Array Slot), (10 ≤ s0_52 ∧ s0_52 ≤ 12) → va_P (dC, dI) vwCl (mG ad ca g_12 a_13) H → va_D A (mG ad ca g_12 a_13) → va_S A s.heap H locs → lv_has ls 5 [(3, .int (iI s0_39)), (2, .int (iI s0_10)), (0, .ref (ad 0)), (1, .int (iI p1))] → W p l e ({ frames := 7, cells := 0, slots := 0, locals := 153 }) s m ([.ref (ad 0), .int (iI p1)] : List Value).toArray below meth c H locs 0 0 Q (F0 m 52 ls [.int (iI s0_52)]) := by
          intro s0_52 H locs ls h_40 hP hD hS hl
          refine lv_istore (lv' := [(4, .int (iI s0_52)), (3, .int (iI s0_39)), (2, .int (iI s0_10)), (0, .ref (ad 0)), (1, .int (iI p1))]) hx hb dX13_choice_52 hl (by decide) rfl (fun ls hl => ?_)
          refine lv_aload_n hx hb dX13_choice_54 rfl (lv_at hl 3 rfl) ?_
          refine lv_iload_n hx hb dX13_choice_55 rfl (lv_at hl 1 rfl) ?_
          refine jc_i (va_runV (As := [.int (iI s0_39)]) (rest := []) ⟨hx, hb, hml, hown, hts⟩ (sX13_isWord l dC dI _ ad ca g_12 a_13 s0_39 hI (by omega)) (cwV 1 hts (jgoodV m_236 m_396 m_397 m_503 m_165) rfl rfl rfl (by decide +kernel) ⟨(Nat.le_of_ble_eq_true rfl), (Nat.le_of_ble_eq_true rfl)⟩) ⟨jw_blind, va_recv hK hP (ci := 13) (q0 := 0) rfl rfl, fun U hU hW => ⟨rfl, jw_of hU hW hP hK hD⟩⟩ rfl rfl hl.1 rfl (lv_room (Nat.le_of_ble_eq_true rfl)) dX13_choice_56 ⟨(Nat.le_of_ble_eq_true rfl), (Nat.le_of_ble_eq_true rfl)⟩) hP hS hA (fun r_41 H locs w_42 hP hS => ?_)
          obtain ⟨z_43, rfl, h_44, h_45⟩ := w_42
          have b_46 : 0 ≤ g_12 3 ∧ g_12 3 ≤ 4 := hI.1 3
          have J73 : ∀ (H : Heap) (locs : List Loc) (ls : Array Slot), (g_12 3 = 2) → va_P (dC, dI) vwCl (mG ad ca g_12 a_13) H → va_D A (mG ad ca g_12 a_13) → va_S A s.heap H locs → lv_has ls 5 [(4, .int (iI s0_52)), (3, .int (iI s0_39)), (2, .int (iI s0_10)), (0, .ref (ad 0)), (1, .int (iI p1))] → W p l e ({ frames := 7, cells := 0, slots := 0, locals := 153 }) s m ([.ref (ad 0), .int (iI p1)] : List Value).toArray below meth c H locs 0 0 Q (F0 m 73 ls []) := by
            intro H locs ls h_47 hP hD hS hl
            refine lv_aload_n hx hb dX13_choice_73 rfl (lv_at hl 3 rfl) ?_
            refine gf_slotBegin hx hb hj hown hK hP dX13_choice_74 ?_
            refine lv_iload_n hx hb dX13_choice_77 rfl (lv_at hl 2 rfl) ?_
            refine lv_aload_n hx hb dX13_choice_78 rfl (lv_at hl 3 rfl) ?_
            refine gf_doing hx hb hj hown hK hP hI dX13_choice_79 (fun h_48 => ?_)
            refine st_slotBegin hx hb hK hP hD hS hI (by omega) (by omega) (by omega) (by omega) dX13_choice_82 (fun a_49 H locs e_50 e_51 hI hP hD hS => ?_)
            have haA : ∀ j, j ∉ ([3, 4, 5, 6] : List Nat) → a_49 j = a j := fun j h => (e_50 j (fun q => h (q ▸ (by decide : 5 ∈ ([3, 4, 5, 6] : List Nat))))).trans (haA j h)
            have t_52 : a_49 2 = a 2 := (e_50 2 (by decide)).trans t_30
            have t_53 : a_49 3 = a 3 := (e_50 3 (by decide)).trans t_31
            have t_54 : a_49 4 = a 4 := (e_50 4 (by decide)).trans t_32
            have t_55 : a_49 5 = up (a 5) s0_10 (g 12) := e_51.trans (up_c t_33 (by omega) (by omega))
            have t_56 : a_49 6 = a 6 := (e_50 6 (by decide)).trans t_34
            have t_57 : a_49 7 = a 7 := (e_50 7 (by decide)).trans t_35
            have t_58 : a_49 8 = a 8 := (e_50 8 (by decide)).trans t_36
            refine lv_aload_n hx hb dX13_choice_83 rfl (lv_at hl 3 rfl) ?_
            refine lv_iconst (v := iI 0) hx hb dX13_choice_84 rfl ?_
            refine lv_aload_n hx hb dX13_choice_85 rfl (lv_at hl 3 rfl) ?_
            refine lv_iload_n hx hb dX13_choice_86 rfl (lv_at hl 1 rfl) ?_
            refine jc_i (va_runV (As := [.int (iI s0_39)]) (rest := [.int (iI 0), .ref (ad 0)]) ⟨hx, hb, hml, hown, hts⟩ (sX13_isWord l dC dI _ ad ca g_12 a_49 s0_39 hI (by omega)) (cwV 1 hts (jgoodV m_236 m_396 m_397 m_503 m_165) rfl rfl rfl (by decide +kernel) ⟨(Nat.le_of_ble_eq_true rfl), (Nat.le_of_ble_eq_true rfl)⟩) ⟨jw_blind, va_recv hK hP (ci := 13) (q0 := 0) rfl rfl, fun U hU hW => ⟨rfl, jw_of hU hW hP hK hD⟩⟩ rfl rfl hl.1 rfl (lv_room (Nat.le_of_ble_eq_true rfl)) dX13_choice_87 ⟨(Nat.le_of_ble_eq_true rfl), (Nat.le_of_ble_eq_true rfl)⟩) hP hS hA (fun r_59 H locs w_60 hP hS => ?_)
            obtain ⟨z_61, rfl, h_62, h_63⟩ := w_60
            have b_64 : 0 ≤ g_12 3 ∧ g_12 3 ≤ 4 := hI.1 3
            have J98 : ∀ (s0_98 : Int) (H : Heap) (locs : List Loc) (ls : Array Slot), (0 ≤ s0_98 ∧ s0_98 ≤ 1) → va_P (dC, dI) vwCl (mG ad ca g_12 a_49) H → va_D A (mG ad ca g_12 a_49) → va_S A s.heap H locs → lv_has ls 5 [(4, .int (iI s0_52)), (3, .int (iI s0_39)), (2, .int (iI s0_10)), (0, .ref (ad 0)), (1, .int (iI p1))] → W p l e ({ frames := 7, cells := 0, slots := 0, locals := 153 }) s m ([.ref (ad 0), .int (iI p1)] : List Value).toArray below meth c H locs 0 0 Q (F0 m 98 ls [.int (iI s0_98), .int (iI 0), .ref (ad 0)]) := by
              intro s0_98 H locs ls h_65 hP hD hS hl
              refine jcg_v (va_runV (As := [.int (iI 0), .int (iI s0_98)]) (rest := []) ⟨hx, hb, hml, hown, hts⟩ (sX13_emits l dC dI _ ad ca g_12 a_49 0 s0_98 hI (by omega) (by omega) (by omega)) (cwV 2 hts (jgoodV m_226 m_322 m_323 m_503 m_126) rfl rfl rfl (by decide +kernel) ⟨(Nat.le_of_ble_eq_true rfl), (Nat.le_of_ble_eq_true rfl)⟩) ⟨jw_blind, va_recv hK hP (ci := 13) (q0 := 0) rfl rfl, fun U hU hW => ⟨rfl, jw_of hU hW hP hK hD⟩⟩ rfl rfl hl.1 rfl (lv_room (Nat.le_of_ble_eq_true rfl)) dX13_choice_98 ⟨(Nat.le_of_ble_eq_true rfl), (Nat.le_of_ble_eq_true rfl)⟩) hD hS hA (fun u_74 H locs w_67 hP hK hD hS => ?_)
              obtain ⟨g_72, a_73⟩ := u_74
              obtain ⟨hI, hfr_75, hfr_76, h_69, h_70, h_71⟩ := w_67
              have hP : va_P (dC, dI) vwCl (mG ad ca g_72 a_73) H := hP
              have hD : va_D A (mG ad ca g_72 a_73) := hD
              have hfA : ∀ j, j ∉ ([2, 3, 4, 5, 12] : List Nat) → g_72 j = g j := fun j h => (hfr_75 j (fun q => h (by first | exact q | (simp only [List.mem_cons, List.not_mem_nil, or_false] at q ⊢ <;> omega)))).trans (hfA j h)
              have b_78 : g_72 1 = g 1 := hfA 1 (by decide)
              have b_79 : g_72 7 = g 7 := hfA 7 (by decide)
              have b_80 : g_72 8 = g 8 := hfA 8 (by decide)
              have b_81 : g_72 9 = g 9 := hfA 9 (by decide)
              have b_82 : g_72 15 = g 15 := hfA 15 (by decide)
              have b_83 := hfr_75 2 (by decide)
              have b_84 := hfr_75 3 (by decide)
              have haA : ∀ j, j ∉ ([3, 4, 5, 6] : List Nat) → a_73 j = a j := fun j h => (hfr_76 j (fun q => h (by first | exact q | (simp only [List.mem_cons, List.not_mem_nil, or_false] at q ⊢ <;> omega)))).trans (haA j h)
              have h_69 : g_72 12 = g_12 12 + 1 := h_69
              have h_70 : a_73 3 = up (a_49 3) (g_12 12) 0 := h_70
              have h_71 : a_73 4 = up (a_49 4) (g_12 12) s0_98 := h_71
              have b_85 : g_72 1 = g_12 1 := hfr_75 1 (by decide)
              have b_86 : g_72 2 = g_12 2 := hfr_75 2 (by decide)
              have b_87 : g_72 3 = g_12 3 := hfr_75 3 (by decide)
              have b_88 : g_72 4 = g_12 4 := hfr_75 4 (by decide)
              have b_89 : g_72 7 = g_12 7 := hfr_75 7 (by decide)
              have b_90 : g_72 8 = g_12 8 := hfr_75 8 (by decide)
              have b_91 : g_72 9 = g_12 9 := hfr_75 9 (by decide)
              have b_92 : g_72 15 = g_12 15 := hfr_75 15 (by decide)
              have t_93 : a_73 2 = a 2 := (hfr_76 2 (by decide)).trans t_52
              have t_94 : a_73 3 = up (a 3) (g 12) 0 := h_70.trans (up_c t_53 (by omega) (by omega))
              have t_95 : a_73 4 = up (a 4) (g 12) s0_98 := h_71.trans (up_c t_54 (by omega) (by omega))
              have t_96 : a_73 5 = up (a 5) s0_10 (g 12) := (hfr_76 5 (by decide)).trans t_55
              have t_97 : a_73 6 = a 6 := (hfr_76 6 (by decide)).trans t_56
              have t_98 : a_73 7 = a 7 := (hfr_76 7 (by decide)).trans t_57
              have t_99 : a_73 8 = a 8 := (hfr_76 8 (by decide)).trans t_58
              have b_100 : 0 ≤ g_72 12 ∧ g_72 12 ≤ 600 := hI.1 12
              refine lv_aload_n hx hb dX13_choice_101 rfl (lv_at hl 3 rfl) ?_
              refine gf_slotEnd hx hb hj hown hK hP dX13_choice_102 ?_
              refine lv_iload_n hx hb dX13_choice_105 rfl (lv_at hl 2 rfl) ?_
              refine lv_aload_n hx hb dX13_choice_106 rfl (lv_at hl 3 rfl) ?_
              refine gf_doing hx hb hj hown hK hP hI dX13_choice_107 (fun h_101 => ?_)
              refine st_slotEnd hx hb hK hP hD hS hI (by omega) (by omega) (by omega) (by omega) dX13_choice_110 (fun a_102 H locs e_103 e_104 hI hP hD hS => ?_)
              have haA : ∀ j, j ∉ ([3, 4, 5, 6] : List Nat) → a_102 j = a j := fun j h => (e_103 j (fun q => h (q ▸ (by decide : 6 ∈ ([3, 4, 5, 6] : List Nat))))).trans (haA j h)
              have t_105 : a_102 2 = a 2 := (e_103 2 (by decide)).trans t_93
              have t_106 : a_102 3 = up (a 3) (g 12) 0 := (e_103 3 (by decide)).trans t_94
              have t_107 : a_102 4 = up (a 4) (g 12) s0_98 := (e_103 4 (by decide)).trans t_95
              have t_108 : a_102 5 = up (a 5) s0_10 (g 12) := (e_103 5 (by decide)).trans t_96
              have t_109 : a_102 6 = up (a 6) s0_10 (g 12 + 1) := e_104.trans (up_c t_97 (by omega) (by omega))
              have t_110 : a_102 7 = a 7 := (e_103 7 (by decide)).trans t_98
              have t_111 : a_102 8 = a 8 := (e_103 8 (by decide)).trans t_99
              refine lv_aload_n hx hb dX13_choice_111 rfl (lv_at hl 3 rfl) ?_
              refine jcg_i (va_runV (As := []) (rest := []) ⟨hx, hb, hml, hown, hts⟩ (sX13_takes l dC dI _ ad ca sK sV g_72 a_102  hI (by omega)) (cwV 0 hts (jgoodV m_228 m_480 m_481 m_503 m_208) rfl rfl rfl (by decide +kernel) ⟨(Nat.le_of_ble_eq_true rfl), (Nat.le_of_ble_eq_true rfl)⟩) ⟨mP_blind, va_recv hK hP (ci := 13) (q0 := 0) rfl rfl, fun U hU hW => ⟨rfl, mP_of hU hW hP hK hD hXs hS (fun _ h => h) hA⟩⟩ rfl rfl hl.1 rfl (lv_room (Nat.le_of_ble_eq_true rfl)) dX13_choice_112 ⟨(Nat.le_of_ble_eq_true rfl), (Nat.le_of_ble_eq_true rfl)⟩) hD hS hA (fun r_112 u_123 H locs w_113 hP hK hD hS => ?_)
              obtain ⟨g_121, a_122⟩ := u_123
              obtain ⟨z_114, rfl, hI, hfr_124, hfr_125, h_115, h_116, h_117, h_118, h_119, h_120⟩ := w_113
              have hP : va_P (dC, dI) vwCl (mG ad ca g_121 a_122) H := hP
              have hD : va_D A (mG ad ca g_121 a_122) := hD
              have hfA : ∀ j, j ∉ ([2, 3, 4, 5, 12] : List Nat) → g_121 j = g j := fun j h => (hfr_124 j (fun q => h (by first | exact q | (simp only [List.mem_cons, List.not_mem_nil, or_false] at q ⊢ <;> omega)))).trans (hfA j h)
              have b_127 : g_121 1 = g 1 := hfA 1 (by decide)
              have b_128 : g_121 7 = g 7 := hfA 7 (by decide)
              have b_129 : g_121 8 = g 8 := hfA 8 (by decide)
              have b_130 : g_121 9 = g 9 := hfA 9 (by decide)
              have b_131 : g_121 15 = g 15 := hfA 15 (by decide)
              have b_132 := hfr_124 12 (by decide)
              have haA : ∀ j, j ∉ ([3, 4, 5, 6] : List Nat) → a_122 j = a j := fun j h => (hfr_125 j (fun q => h (by first | exact q | (simp only [List.mem_cons, List.not_mem_nil, or_false] at q ⊢ <;> omega)))).trans (haA j h)
              have h_117 : g_72 2 ≤ g_121 2 := h_117
              have h_118 : g_121 2 ≤ g_72 1 := h_118
              have h_119 : g_121 3 = 0 ∨ g_72 2 + 1 ≤ g_121 2 := h_119
              have h_120 : g_121 4 ≤ g_121 2 := h_120
              have b_133 : g_121 1 = g_72 1 := hfr_124 1 (by decide)
              have b_134 : g_121 7 = g_72 7 := hfr_124 7 (by decide)
              have b_135 : g_121 8 = g_72 8 := hfr_124 8 (by decide)
              have b_136 : g_121 9 = g_72 9 := hfr_124 9 (by decide)
              have b_137 : g_121 12 = g_72 12 := hfr_124 12 (by decide)
              have b_138 : g_121 15 = g_72 15 := hfr_124 15 (by decide)
              have t_139 : a_122 2 = a 2 := (hfr_125 2 (by decide)).trans t_105
              have t_140 : a_122 3 = up (a 3) (g 12) 0 := (hfr_125 3 (by decide)).trans t_106
              have t_141 : a_122 4 = up (a 4) (g 12) s0_98 := (hfr_125 4 (by decide)).trans t_107
              have t_142 : a_122 5 = up (a 5) s0_10 (g 12) := (hfr_125 5 (by decide)).trans t_108
              have t_143 : a_122 6 = up (a 6) s0_10 (g 12 + 1) := (hfr_125 6 (by decide)).trans t_109
              have t_144 : a_122 7 = a 7 := (hfr_125 7 (by decide)).trans t_110
              have t_145 : a_122 8 = a 8 := (hfr_125 8 (by decide)).trans t_111
              have b_146 : 0 ≤ g_121 1 ∧ g_121 1 ≤ 600 := hI.1 1
              have b_147 : 0 ≤ g_121 2 ∧ g_121 2 ≤ 600 := hI.1 2
              rw [← hQ]
              exact W.zret (v := iI z_114) (ty := .boolean) hx hb hr (nb_bool (by omega) (by omega)) (fun t ht hW => ⟨⟨iI z_114, (g_121, a_122), rfl, ⟨z_114, rfl, hI, hfA, haA, by omega, by show z_114 = 0 ∨ (rPn g_121 a_122 (g_121 7) ∧ mz g_121 a_122 (g_121 7) ≤ mB g); first | exact Or.inl rfl | exact Or.inr (st_ch (g1 := g_12) hrM (by omega) (by omega) (by omega) (by omega) (by omega) (by omega) (by omega) (by omega) (by omega) t_140 t_141 t_142 t_143 t_144 t_145 (by omega) (by omega) ⟨by omega, by omega, by omega⟩ ⟨by omega, by omega, by omega⟩ t_139)⟩, by rw [ht]; exact hP, va_K.moved hW.alike hK, hD⟩, hS.F ht⟩) hS.2.2 dX13_choice_115
            refine xr_if_eq (tgt := 97) hx hb dX13_choice_90 (by decide) (by omega) (fun h_148 => ?_) (fun h_148 => ?_)
            · refine lv_iconst (v := iI 0) hx hb dX13_choice_97 rfl ?_
              exact J98 0 H locs ls (by omega) hP hD hS hl
            · refine lv_iconst (v := iI 1) hx hb dX13_choice_93 rfl ?_
              refine lv_goto (tgt := 98) hx hb dX13_choice_94 (by decide) ?_
              exact J98 1 H locs ls (by omega) hP hD hS hl
          refine xr_if_ne (tgt := 73) hx hb dX13_choice_59 (by decide) (by omega) (fun h_149 => ?_) (fun h_149 => ?_)
          · exact J73 H locs ls (by omega) hP hD hS hl
          · refine lv_aload_n hx hb dX13_choice_62 rfl (lv_at hl 3 rfl) ?_
            refine lv_iload hx hb dX13_choice_63 (lv_at hl 0 rfl) ?_
            refine jc_i (va_runV (As := [.int (iI s0_52)]) (rest := []) ⟨hx, hb, hml, hown, hts⟩ (sX13_isWord l dC dI _ ad ca g_12 a_13 s0_52 hI (by omega)) (cwV 1 hts (jgoodV m_236 m_396 m_397 m_503 m_165) rfl rfl rfl (by decide +kernel) ⟨(Nat.le_of_ble_eq_true rfl), (Nat.le_of_ble_eq_true rfl)⟩) ⟨jw_blind, va_recv hK hP (ci := 13) (q0 := 0) rfl rfl, fun U hU hW => ⟨rfl, jw_of hU hW hP hK hD⟩⟩ rfl rfl hl.1 rfl (lv_room (Nat.le_of_ble_eq_true rfl)) dX13_choice_65 ⟨(Nat.le_of_ble_eq_true rfl), (Nat.le_of_ble_eq_true rfl)⟩) hP hS hA (fun r_150 H locs w_151 hP hS => ?_)
            obtain ⟨z_152, rfl, h_153, h_154⟩ := w_151
            have b_155 : 0 ≤ g_12 3 ∧ g_12 3 ≤ 4 := hI.1 3
            refine xr_if_ne (tgt := 73) hx hb dX13_choice_68 (by decide) (by omega) (fun h_156 => ?_) (fun h_156 => ?_)
            · exact J73 H locs ls (by omega) hP hD hS hl
            · refine lv_iconst (v := iI 0) hx hb dX13_choice_71 rfl ?_
              rw [← hQ]
              exact W.zret (v := iI 0) (ty := .boolean) hx hb hr (nb_bool (by omega) (by omega)) (fun t ht hW => ⟨⟨iI 0, (g_12, a_13), rfl, ⟨0, rfl, hI, hfA, haA, by omega, by show 0 = 0 ∨ (rPn g_12 a_13 (g_12 7) ∧ mz g_12 a_13 (g_12 7) ≤ mB g); first | exact Or.inl rfl | exact Or.inr (st_ch (g1 := g_12) hrM (by omega) (by omega) (by omega) (by omega) (by omega) (by omega) (by omega) (by omega) (by omega) t_31 t_32 t_33 t_34 t_35 t_36 (by omega) (by omega) ⟨by omega, by omega, by omega⟩ ⟨by omega, by omega, by omega⟩ t_30)⟩, by rw [ht]; exact hP, va_K.moved hW.alike hK, hD⟩, hS.F ht⟩) hS.2.2 dX13_choice_72
        refine xr_icmp_ne (tgt := 50) hx hb dX13_choice_42 (by decide) (by omega) (by omega) (fun h_157 => ?_) (fun h_157 => ?_)
        · refine lv_bipush (v := iI 12) hx hb dX13_choice_50 rfl ?_
          exact J52 12 H locs ls (by omega) hP hD hS hl
        · refine lv_bipush (v := iI 10) hx hb dX13_choice_45 rfl ?_
          refine lv_goto (tgt := 52) hx hb dX13_choice_47 (by decide) ?_
          exact J52 10 H locs ls (by omega) hP hD hS hl
      refine xr_icmp_ne (tgt := 37) hx hb dX13_choice_29 (by decide) (by omega) (by omega) (fun h_158 => ?_) (fun h_158 => ?_)
      · refine lv_bipush (v := iI 11) hx hb dX13_choice_37 rfl ?_
        exact J39 11 H locs ls (by omega) hP hD hS hl
      · refine lv_bipush (v := iI 9) hx hb dX13_choice_32 rfl ?_
        refine lv_goto (tgt := 39) hx hb dX13_choice_34 (by decide) ?_
        exact J39 9 H locs ls (by omega) hP hD hS hl
    · refine lv_iconst (v := iI 0) hx hb dX13_choice_21 rfl ?_
      rw [← hQ]
      exact W.zret (v := iI 0) (ty := .boolean) hx hb hr (nb_bool (by omega) (by omega)) (fun t ht hW => ⟨⟨iI 0, (g, a), rfl, ⟨0, rfl, hI, hfA, haA, by omega, by show 0 = 0 ∨ (rPn g a (g 7) ∧ mz g a (g 7) ≤ mB g); first | exact Or.inl rfl | exact Or.inr (st_ch (g1 := _) hrM (by omega) (by omega) (by omega) (by omega) (by omega) (by omega) (by omega) (by omega) (by omega) rfl rfl rfl rfl rfl rfl (by omega) (by omega) ⟨by omega, by omega, by omega⟩ ⟨by omega, by omega, by omega⟩ rfl)⟩, by rw [ht]; exact hP, va_K.moved hW.alike hK, hD⟩, hS.F ht⟩) hS.2.2 dX13_choice_22
  refine xr_icmp_ne (tgt := 9) hx hb dX13_choice_2 (by decide) (by omega) (by omega) (fun h_159 => ?_) (fun h_159 => ?_)
  · refine lv_iconst (v := iI 1) hx hb dX13_choice_9 rfl ?_
    exact J10 1 H locs ls (by omega) (by omega) hP hD hS hl
  · refine lv_iconst (v := iI 0) hx hb dX13_choice_5 rfl ?_
    refine lv_goto (tgt := 10) hx hb dX13_choice_6 (by decide) ?_
    exact J10 0 H locs ls (by omega) (by omega) hP hD hS hl
