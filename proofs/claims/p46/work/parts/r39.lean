set_option maxHeartbeats 2000000 in
set_option maxRecDepth 100000 in
theorem sX13_reads (l : Launch) (dC : Nat → ClassId) (dI : Nat → Nat → Nat) (sz : Nat) (ad : Nat → Nat) (ca : Nat → ClassId) (sK sV : Nat → Nat) (g : Nat → Int) (a : Nat → Int → Int) (hI : mI g a) : Met l yX13_reads (jk yX13_reads cX13_reads 2 (some .int)) ({ frames := 10, cells := 0, slots := 0, locals := 219 }) (va_Pc [.ref (ad 0)] (mP (dC, dI) (mG ad ca g a) (mT ca) sK sV sz)) (va_Qi (fun (r : Int32) (u : (Nat → Int) × (Nat → Int → Int)) => ∃ z : Int, r = iI z ∧ (mI u.1 u.2) ∧ (∀ j, j ∉ ([2, 3, 4, 5, 7, 8, 9, 12, 15] : List Nat) → u.1 j = g j) ∧ (∀ j, j ∉ ([2, 3, 4, 5, 6, 7, 8] : List Nat) → u.2 j = a j) ∧ ((-1) ≤ z ∧ z ≤ 600) ∧ (z ≠ -1 ∨ rF u.1 u.2) ∧ (z ≠ -1 ∨ 0 ≤ u.1 12)) (fun u t => va_P (dC, dI) vwCl (mG ad ca u.1 u.2) t.heap ∧ va_K (dC, dI) vwCl (mT ca) t ∧ va_D (va_A (mG ad ca g a) sz) (mG ad ca u.1 u.2)) (va_A (mG ad ca g a) sz)) 0 0 (va_A (mG ad ca g a) sz) := by
  refine Met.ofW (cc := cX13_reads) (maxL := 2) (ret := (some .int)) (by decide) rfl ?_
  intro p e s m args below meth c s₁ B hml hv
  obtain ⟨rfl, ⟨hsz, hP, hK, hD0⟩, hX0⟩ := hv
  have hx := B.exec
  have hb := B.bytes
  have hr := B.returns
  have hts := atoms_spec (ws := (jk yX13_reads cX13_reads 2 (some .int))) B.pre
  have hj : ∀ w ∈ jw, w.before ([.ref (ad 0)] : List Value).toArray s = true := fun w h => hts w (jm h)
  have hown : s.vm.findClass RX13 = some m.cls := findClass_of_methodNamed B.named
  subst hsz
  have hD := hD0.self (sz := s.heap.size)
  have hXs := hX0
  generalize hAe : (va_A (mG ad ca g a) s.heap.size) = A at hD hXs ⊢
  have hA : ∀ q : Nat, s.heap.size ≤ q → A q := fun q h => by rw [← hAe]; exact Or.inr h
  have hS : va_S A s.heap s.heap [] := va_S.rf
  have hP : va_P (dC, dI) vwCl (mG ad ca g a) s.heap := hP
  have hfA : ∀ j, j ∉ ([2, 3, 4, 5, 7, 8, 9, 12, 15] : List Nat) → g j = g j := fun _ _ => rfl
  have haA : ∀ j, j ∉ ([2, 3, 4, 5, 6, 7, 8] : List Nat) → a j = a j := fun _ _ => rfl
  have hl := lv_entry ([.ref (ad 0)]) (n := 2) (Nat.le_of_ble_eq_true rfl)
  rw [lg_entry_eq]
  generalize (lg_sl ([.ref (ad 0)]) ++ List.replicate (2 - (lg_sl ([.ref (ad 0)])).length) Slot.unset).toArray = ls at hl ⊢
  have hl : lv_has ls 2 [(0, .ref (ad 0))] := hl
  generalize hQ : MQ below (va_Qi (fun (r : Int32) (u : (Nat → Int) × (Nat → Int → Int)) => ∃ z : Int, r = iI z ∧ (mI u.1 u.2) ∧ (∀ j, j ∉ ([2, 3, 4, 5, 7, 8, 9, 12, 15] : List Nat) → u.1 j = g j) ∧ (∀ j, j ∉ ([2, 3, 4, 5, 6, 7, 8] : List Nat) → u.2 j = a j) ∧ ((-1) ≤ z ∧ z ≤ 600) ∧ (z ≠ -1 ∨ rF u.1 u.2) ∧ (z ≠ -1 ∨ 0 ≤ u.1 12)) (fun u t => va_P (dC, dI) vwCl (mG ad ca u.1 u.2) t.heap ∧ va_K (dC, dI) vwCl (mT ca) t ∧ va_D A (mG ad ca u.1 u.2)) A) ([.ref (ad 0)] : List Value).toArray s 0 0 A = Q
  suffices ST : ∀ (H : Heap) (locs : List Loc), va_P (dC, dI) vwCl (mG ad ca g a) H → va_S A s.heap H locs → W p l e ({ frames := 10, cells := 0, slots := 0, locals := 219 }) s m ([.ref (ad 0)] : List Value).toArray below meth c H locs 0 0 Q (F0 m 0 ls []) from ST _ _ hP hS
  clear hP hS
  intro H locs hP hS
  have b1_0 : 0 ≤ g 1 ∧ g 1 ≤ 600 := hI.1 1
  refine lv_aload_n hx hb dX13_reads_0 rfl (lv_at hl 0 rfl) ?_
  refine lv_iconst (v := iI 0) hx hb dX13_reads_1 rfl ?_
  refine pf_at hx hb hj hown hK hP hD hS hI (by omega) (by omega) dX13_reads_2 (fun g_1 H locs e_2 e_3 hI hP hD hS => ?_)
  have hfA : ∀ j, j ∉ ([2, 3, 4, 5, 7, 8, 9, 12, 15] : List Nat) → g_1 j = g j := fun j h => (e_2 j (fun q => h (q ▸ (by decide : 2 ∈ ([2, 3, 4, 5, 7, 8, 9, 12, 15] : List Nat))))).trans (hfA j h)
  have b_4 := e_2 3 (by decide)
  have b_5 := e_2 4 (by decide)
  have b_6 := e_2 7 (by decide)
  have b_7 := e_2 8 (by decide)
  have b_8 := e_2 9 (by decide)
  have b_9 := e_2 12 (by decide)
  have b_10 := e_2 15 (by decide)
  have b_11 : g_1 1 = g 1 := hfA 1 (by decide)
  have b_12 := e_2 1 (by decide)
  have b_13 := e_2 3 (by decide)
  have b_14 := e_2 4 (by decide)
  have b_15 := e_2 7 (by decide)
  have b_16 := e_2 8 (by decide)
  have b_17 := e_2 9 (by decide)
  have b_18 := e_2 12 (by decide)
  have b_19 := e_2 15 (by decide)
  refine lv_aload_n hx hb dX13_reads_5 rfl (lv_at hl 0 rfl) ?_
  refine lv_iconst (v := iI 0) hx hb dX13_reads_6 rfl ?_
  refine pf_coming hx hb hj hown hK hP hD hS hI (by omega) (by omega) dX13_reads_7 (fun g_20 H locs e_21 e_22 hI hP hD hS => ?_)
  have hfA : ∀ j, j ∉ ([2, 3, 4, 5, 7, 8, 9, 12, 15] : List Nat) → g_20 j = g j := fun j h => (e_21 j (fun q => h (q ▸ (by decide : 7 ∈ ([2, 3, 4, 5, 7, 8, 9, 12, 15] : List Nat))))).trans (hfA j h)
  have b_23 := e_21 2 (by decide)
  have b_24 := e_21 3 (by decide)
  have b_25 := e_21 4 (by decide)
  have b_26 := e_21 8 (by decide)
  have b_27 := e_21 9 (by decide)
  have b_28 := e_21 12 (by decide)
  have b_29 := e_21 15 (by decide)
  have b_30 : g_20 1 = g 1 := hfA 1 (by decide)
  have b_31 := e_21 1 (by decide)
  have b_32 := e_21 2 (by decide)
  have b_33 := e_21 3 (by decide)
  have b_34 := e_21 4 (by decide)
  have b_35 := e_21 8 (by decide)
  have b_36 := e_21 9 (by decide)
  have b_37 := e_21 12 (by decide)
  have b_38 := e_21 15 (by decide)
  refine lv_aload_n hx hb dX13_reads_10 rfl (lv_at hl 0 rfl) ?_
  refine lv_iconst (v := iI 0) hx hb dX13_reads_11 rfl ?_
  refine pa_deep hx hb hj hown hK hP hD hS hI dX13_reads_12 (fun g_39 z_42 H locs h_43 h_44 e_40 e_41 hI hP hD hS => ?_)
  have hfA : ∀ j, j ∉ ([2, 3, 4, 5, 7, 8, 9, 12, 15] : List Nat) → g_39 j = g j := fun j h => (e_40 j (fun q => h (q ▸ (by decide : 8 ∈ ([2, 3, 4, 5, 7, 8, 9, 12, 15] : List Nat))))).trans (hfA j h)
  have b_45 := e_40 2 (by decide)
  have b_46 := e_40 3 (by decide)
  have b_47 := e_40 4 (by decide)
  have b_48 := e_40 7 (by decide)
  have b_49 := e_40 9 (by decide)
  have b_50 := e_40 12 (by decide)
  have b_51 := e_40 15 (by decide)
  have b_52 : g_39 1 = g 1 := hfA 1 (by decide)
  have b_53 := e_40 1 (by decide)
  have b_54 := e_40 2 (by decide)
  have b_55 := e_40 3 (by decide)
  have b_56 := e_40 4 (by decide)
  have b_57 := e_40 7 (by decide)
  have b_58 := e_40 9 (by decide)
  have b_59 := e_40 12 (by decide)
  have b_60 := e_40 15 (by decide)
  refine lv_aload_n hx hb dX13_reads_15 rfl (lv_at hl 0 rfl) ?_
  refine lv_iconst (v := iI 0) hx hb dX13_reads_16 rfl ?_
  refine pf_doing hx hb hj hown hK hP hD hS hI (by omega) (by omega) dX13_reads_17 (fun g_61 H locs e_62 e_63 hI hP hD hS => ?_)
  have hfA : ∀ j, j ∉ ([2, 3, 4, 5, 7, 8, 9, 12, 15] : List Nat) → g_61 j = g j := fun j h => (e_62 j (fun q => h (q ▸ (by decide : 12 ∈ ([2, 3, 4, 5, 7, 8, 9, 12, 15] : List Nat))))).trans (hfA j h)
  have b_64 := e_62 2 (by decide)
  have b_65 := e_62 3 (by decide)
  have b_66 := e_62 4 (by decide)
  have b_67 := e_62 7 (by decide)
  have b_68 := e_62 8 (by decide)
  have b_69 := e_62 9 (by decide)
  have b_70 := e_62 15 (by decide)
  have b_71 : g_61 1 = g 1 := hfA 1 (by decide)
  have b_72 := e_62 1 (by decide)
  have b_73 := e_62 2 (by decide)
  have b_74 := e_62 3 (by decide)
  have b_75 := e_62 4 (by decide)
  have b_76 := e_62 7 (by decide)
  have b_77 := e_62 8 (by decide)
  have b_78 := e_62 9 (by decide)
  have b_79 := e_62 15 (by decide)
  refine lv_aload_n hx hb dX13_reads_20 rfl (lv_at hl 0 rfl) ?_
  refine lv_iconst (v := iI 0) hx hb dX13_reads_21 rfl ?_
  refine pf_skips hx hb hj hown hK hP hD hS hI (by omega) (by omega) dX13_reads_22 (fun g_80 H locs e_81 e_82 hI hP hD hS => ?_)
  have hfA : ∀ j, j ∉ ([2, 3, 4, 5, 7, 8, 9, 12, 15] : List Nat) → g_80 j = g j := fun j h => (e_81 j (fun q => h (q ▸ (by decide : 15 ∈ ([2, 3, 4, 5, 7, 8, 9, 12, 15] : List Nat))))).trans (hfA j h)
  have b_83 := e_81 2 (by decide)
  have b_84 := e_81 3 (by decide)
  have b_85 := e_81 4 (by decide)
  have b_86 := e_81 7 (by decide)
  have b_87 := e_81 8 (by decide)
  have b_88 := e_81 9 (by decide)
  have b_89 := e_81 12 (by decide)
  have b_90 : g_80 1 = g 1 := hfA 1 (by decide)
  have b_91 := e_81 1 (by decide)
  have b_92 := e_81 2 (by decide)
  have b_93 := e_81 3 (by decide)
  have b_94 := e_81 4 (by decide)
  have b_95 := e_81 7 (by decide)
  have b_96 := e_81 8 (by decide)
  have b_97 := e_81 9 (by decide)
  have b_98 := e_81 12 (by decide)
  refine lv_iconst (v := iI 0) hx hb dX13_reads_25 rfl ?_
  refine lv_istore_n (lv' := [(1, .int (iI 0)), (0, .ref (ad 0))]) hx hb dX13_reads_26 rfl hl (by decide) rfl (fun ls hl => ?_)
  have L27 : ∀ (n27 : Nat) (v1_27 : Int) (a_27 : Nat → Int → Int) (H : Heap) (locs : List Loc) (ls : Array Slot), (0 ≤ v1_27 ∧ v1_27 ≤ 2147483647) → (0 ≤ v1_27 ∧ v1_27 ≤ 14) → (sl0 (a_27 5) (a_27 6) (v1_27)) → (a_27 2 = a 2) → (mI g_80 a_27) → (∀ j, j ∉ ([2, 3, 4, 5, 6, 7, 8] : List Nat) → a_27 j = a j) → (0 < (n27 : Int) ∧ 14 - v1_27 < (n27 : Int)) → va_P (dC, dI) vwCl (mG ad ca g_80 a_27) H → va_D A (mG ad ca g_80 a_27) → va_S A s.heap H locs → lv_has ls 2 [(1, .int (iI v1_27)), (0, .ref (ad 0))] → W p l e ({ frames := 10, cells := 0, slots := 0, locals := 219 }) s m ([.ref (ad 0)] : List Value).toArray below meth c H locs 0 0 Q (F0 m 27 ls []) := by
    intro n27
    induction n27 with
    | zero =>
      intro v1_27 a_27 H locs ls h_99 h_100 h_101 t_102 hI haA hm27 hP hD hS hl
      exfalso; omega
    | succ n27 ih27 =>
      intro v1_27 a_27 H locs ls h_103 h_104 h_105 t_106 hI haA hm27 hP hD hS hl
      refine lv_iload_n hx hb dX13_reads_27 rfl (lv_at hl 0 rfl) ?_
      refine lv_bipush (v := iI 14) hx hb dX13_reads_28 rfl ?_
      refine xr_icmp_ge (tgt := 53) hx hb dX13_reads_30 (by decide) (by omega) (by omega) (fun h_107 => ?_) (fun h_107 => ?_)
      · have hs0 := (show sl0 _ _ v1_27 by assumption)
        rw [show v1_27 = 14 by omega] at hs0
        refine lv_aload_n hx hb dX13_reads_53 rfl (lv_at hl 1 rfl) ?_
        refine jcg_v (va_runV (As := []) (rest := []) ⟨hx, hb, hml, hown, hts⟩ (sX13_next l dC dI _ ad ca sK sV g_80 a_27  hI (by omega)) (cwV 0 hts (jgoodV m_224 m_433 m_434 m_503 m_184) rfl rfl rfl (by decide +kernel) ⟨(Nat.le_of_ble_eq_true rfl), (Nat.le_of_ble_eq_true rfl)⟩) ⟨mP_blind, va_recv hK hP (ci := 13) (q0 := 0) rfl rfl, fun U hU hW => ⟨rfl, mP_of hU hW hP hK hD hXs hS (fun _ h => h) hA⟩⟩ rfl rfl hl.1 rfl (lv_room (Nat.le_of_ble_eq_true rfl)) dX13_reads_54 ⟨(Nat.le_of_ble_eq_true rfl), (Nat.le_of_ble_eq_true rfl)⟩) hD hS hA (fun u_117 H locs w_109 hP hK hD hS => ?_)
        obtain ⟨g_115, a_116⟩ := u_117
        obtain ⟨hI, hfr_118, hfr_119, h_111, h_112, h_113, h_114⟩ := w_109
        have hP : va_P (dC, dI) vwCl (mG ad ca g_115 a_116) H := hP
        have hD : va_D A (mG ad ca g_115 a_116) := hD
        have hfA : ∀ j, j ∉ ([2, 3, 4, 5, 7, 8, 9, 12, 15] : List Nat) → g_115 j = g j := fun j h => (hfr_118 j (fun q => h (by first | exact q | (simp only [List.mem_cons, List.not_mem_nil, or_false] at q ⊢ <;> omega)))).trans (hfA j h)
        have b_121 : g_115 1 = g 1 := hfA 1 (by decide)
        have b_122 := hfr_118 7 (by decide)
        have b_123 := hfr_118 8 (by decide)
        have b_124 := hfr_118 9 (by decide)
        have b_125 := hfr_118 12 (by decide)
        have b_126 := hfr_118 15 (by decide)
        have haA : ∀ j, j ∉ ([2, 3, 4, 5, 6, 7, 8] : List Nat) → a_116 j = a j := fun j h => (hfr_119 j (fun q => h (by first | exact q | (simp only [List.mem_cons, List.not_mem_nil, or_false] at q ⊢ <;> omega)))).trans (haA j h)
        have h_111 : g_80 2 ≤ g_115 2 := h_111
        have h_112 : g_115 2 ≤ g_80 1 := h_112
        have h_113 : g_115 3 = 0 ∨ g_80 2 + 1 ≤ g_115 2 := h_113
        have h_114 : g_115 4 ≤ g_115 2 := h_114
        have b_127 : g_115 1 = g_80 1 := hfr_118 1 (by decide)
        have b_128 : g_115 7 = g_80 7 := hfr_118 7 (by decide)
        have b_129 : g_115 8 = g_80 8 := hfr_118 8 (by decide)
        have b_130 : g_115 9 = g_80 9 := hfr_118 9 (by decide)
        have b_131 : g_115 12 = g_80 12 := hfr_118 12 (by decide)
        have b_132 : g_115 15 = g_80 15 := hfr_118 15 (by decide)
        have t_133 : a_116 2 = a 2 := (hfr_119 2 (by decide)).trans t_106
        have t_134 : a_116 5 = a_27 5 := (hfr_119 5 (by decide)).trans rfl
        have t_135 : a_116 6 = a_27 6 := (hfr_119 6 (by decide)).trans rfl
        have b_136 : 0 ≤ g_115 1 ∧ g_115 1 ≤ 600 := hI.1 1
        have b_137 : 0 ≤ g_115 2 ∧ g_115 2 ≤ 600 := hI.1 2
        refine lv_aload_n hx hb dX13_reads_57 rfl (lv_at hl 1 rfl) ?_
        refine lv_iconst (v := iI 0) hx hb dX13_reads_58 rfl ?_
        refine jcg_v (va_runV (As := [.int (iI 0)]) (rest := []) ⟨hx, hb, hml, hown, hts⟩ (sX13_push l dC dI _ ad ca g_115 a_116 0 hI (by omega) (by omega)) (cwV 1 hts (jgoodV m_225 m_452 m_453 m_503 m_194) rfl rfl rfl (by decide +kernel) ⟨(Nat.le_of_ble_eq_true rfl), (Nat.le_of_ble_eq_true rfl)⟩) ⟨jw_blind, va_recv hK hP (ci := 13) (q0 := 0) rfl rfl, fun U hU hW => ⟨rfl, jw_of hU hW hP hK hD⟩⟩ rfl rfl hl.1 rfl (lv_room (Nat.le_of_ble_eq_true rfl)) dX13_reads_59 ⟨(Nat.le_of_ble_eq_true rfl), (Nat.le_of_ble_eq_true rfl)⟩) hD hS hA (fun u_145 H locs w_139 hP hK hD hS => ?_)
        obtain ⟨g_143, a_144⟩ := u_145
        obtain ⟨hI, hfr_146, hfr_147, h_141, h_142⟩ := w_139
        have hP : va_P (dC, dI) vwCl (mG ad ca g_143 a_144) H := hP
        have hD : va_D A (mG ad ca g_143 a_144) := hD
        have hfA : ∀ j, j ∉ ([2, 3, 4, 5, 7, 8, 9, 12, 15] : List Nat) → g_143 j = g j := fun j h => (hfr_146 j (fun q => h (by first | exact q | (simp only [List.mem_cons, List.not_mem_nil, or_false] at q ⊢ <;> omega)))).trans (hfA j h)
        have b_149 : g_143 1 = g 1 := hfA 1 (by decide)
        have b_150 := hfr_146 2 (by decide)
        have b_151 := hfr_146 3 (by decide)
        have b_152 := hfr_146 4 (by decide)
        have b_153 := hfr_146 8 (by decide)
        have b_154 := hfr_146 9 (by decide)
        have b_155 := hfr_146 12 (by decide)
        have b_156 := hfr_146 15 (by decide)
        have haA : ∀ j, j ∉ ([2, 3, 4, 5, 6, 7, 8] : List Nat) → a_144 j = a j := fun j h => (hfr_147 j (fun q => h (by first | exact q | (simp only [List.mem_cons, List.not_mem_nil, or_false] at q ⊢ <;> omega)))).trans (haA j h)
        have h_141 : g_143 7 = g_115 7 + 1 := h_141
        have h_142 : a_144 2 = up (a_116 2) (g_115 7) 0 := h_142
        have b_157 : g_143 1 = g_115 1 := hfr_146 1 (by decide)
        have b_158 : g_143 2 = g_115 2 := hfr_146 2 (by decide)
        have b_159 : g_143 3 = g_115 3 := hfr_146 3 (by decide)
        have b_160 : g_143 4 = g_115 4 := hfr_146 4 (by decide)
        have b_161 : g_143 8 = g_115 8 := hfr_146 8 (by decide)
        have b_162 : g_143 9 = g_115 9 := hfr_146 9 (by decide)
        have b_163 : g_143 12 = g_115 12 := hfr_146 12 (by decide)
        have b_164 : g_143 15 = g_115 15 := hfr_146 15 (by decide)
        have t_165 : a_144 2 = up (a 2) ((0)) 0 := h_142.trans (up_c t_133 (by omega) (by omega))
        have t_166 : a_144 5 = a_27 5 := (hfr_147 5 (by decide)).trans t_134
        have t_167 : a_144 6 = a_27 6 := (hfr_147 6 (by decide)).trans t_135
        have b_168 : 0 ≤ g_143 7 ∧ g_143 7 ≤ 1200 := hI.1 7
        have L62 : ∀ (n62 : Nat) (g_62 : Nat → Int) (a_62 : Nat → Int → Int) (H : Heap) (locs : List Loc) (ls : Array Slot), (rPn g_62 a_62 (g_62 7)) → (g_62 1 = g 1) → (mI g_62 a_62) → (∀ j, j ∉ ([2, 3, 4, 5, 7, 8, 9, 12, 15] : List Nat) → g_62 j = g j) → (∀ j, j ∉ ([2, 3, 4, 5, 6, 7, 8] : List Nat) → a_62 j = a j) → (0 < (n62 : Int) ∧ mz g_62 a_62 (g_62 7) < (n62 : Int)) → va_P (dC, dI) vwCl (mG ad ca g_62 a_62) H → va_D A (mG ad ca g_62 a_62) → va_S A s.heap H locs → lv_has ls 2 [(1, .int (iI v1_27)), (0, .ref (ad 0))] → W p l e ({ frames := 10, cells := 0, slots := 0, locals := 219 }) s m ([.ref (ad 0)] : List Value).toArray below meth c H locs 0 0 Q (F0 m 62 ls []) := by
          intro n62
          induction n62 with
          | zero =>
            intro g_62 a_62 H locs ls h_169 h_170 hI hfA haA hm62 hP hD hS hl
            have b_171 : g_62 1 = g 1 := hfA 1 (by decide)
            exfalso; omega
          | succ n62 ih62 =>
            intro g_62 a_62 H locs ls h_172 h_173 hI hfA haA hm62 hP hD hS hl
            have b_174 : g_62 1 = g 1 := hfA 1 (by decide)
            refine lv_aload_n hx hb dX13_reads_62 rfl (lv_at hl 1 rfl) ?_
            refine gf_coming hx hb hj hown hK hP hI dX13_reads_63 (fun h_175 => ?_)
            refine xr_if_le (tgt := 100) hx hb dX13_reads_66 (by decide) (by omega) (fun h_176 => ?_) (fun h_176 => ?_)
            · refine lv_iconst (v := iI (-1)) hx hb dX13_reads_100 rfl ?_
              rw [← hQ]
              exact W.iret (v := iI (-1)) hx hb hr (fun t ht hW => ⟨⟨iI (-1), (g_62, a_62), rfl, ⟨(-1), rfl, hI, hfA, haA, by omega, by show (-1) ≠ -1 ∨ rF g_62 a_62; first | exact Or.inr (rF_of (show rPn g_62 a_62 (g_62 7) by assumption)) | exact Or.inl (by omega), by show (-1) ≠ -1 ∨ 0 ≤ g_62 12; first | exact Or.inl (by omega) | (obtain ⟨b9, d9, P9, W9, c9, h89, hat9, h29, hcd9, -, -⟩ := (show rPn g_62 a_62 (g_62 7) by assumption); exact Or.inr (Int.le_trans hcd9.1 hcd9.2.1))⟩, by rw [ht]; exact hP, va_K.moved hW.alike hK, hD⟩, hS.F ht⟩) hS.2.2 dX13_reads_101
            · refine lv_aload_n hx hb dX13_reads_69 rfl (lv_at hl 1 rfl) ?_
              refine lv_dup hx hb dX13_reads_70 rfl ?_
              refine gf_coming hx hb hj hown hK hP hI dX13_reads_71 (fun h_177 => ?_)
              refine lv_iconst (v := iI 1) hx hb dX13_reads_74 rfl ?_
              refine xr_sub hx hb dX13_reads_75 ?_
              refine pf_coming hx hb hj hown hK hP hD hS hI (by omega) (by omega) dX13_reads_76 (fun g_178 H locs e_179 e_180 hI hP hD hS => ?_)
              have hfA : ∀ j, j ∉ ([2, 3, 4, 5, 7, 8, 9, 12, 15] : List Nat) → g_178 j = g j := fun j h => (e_179 j (fun q => h (q ▸ (by decide : 7 ∈ ([2, 3, 4, 5, 7, 8, 9, 12, 15] : List Nat))))).trans (hfA j h)
              have b_181 := e_179 2 (by decide)
              have b_182 := e_179 3 (by decide)
              have b_183 := e_179 4 (by decide)
              have b_184 := e_179 8 (by decide)
              have b_185 := e_179 9 (by decide)
              have b_186 := e_179 12 (by decide)
              have b_187 := e_179 15 (by decide)
              have b_188 : g_178 1 = g 1 := hfA 1 (by decide)
              have b_189 := e_179 1 (by decide)
              have b_190 := e_179 2 (by decide)
              have b_191 := e_179 3 (by decide)
              have b_192 := e_179 4 (by decide)
              have b_193 := e_179 8 (by decide)
              have b_194 := e_179 9 (by decide)
              have b_195 := e_179 12 (by decide)
              have b_196 := e_179 15 (by decide)
              obtain ⟨hrP1c, hmz⟩ := rP1_of (g := g_62) (g' := g_178) (show rPn g_62 a_62 (g_62 7) by assumption) (by omega) (by omega) (by omega) (by omega) (by omega) (by omega) (by omega) (by omega)
              refine lv_aload_n hx hb dX13_reads_79 rfl (lv_at hl 1 rfl) ?_
              refine lv_aload_n hx hb dX13_reads_80 rfl (lv_at hl 1 rfl) ?_
              refine gf_toCome hx hb hj hown hK hP dX13_reads_81 ?_
              refine lv_aload_n hx hb dX13_reads_84 rfl (lv_at hl 1 rfl) ?_
              refine gf_coming hx hb hj hown hK hP hI dX13_reads_85 (fun h_197 => ?_)
              refine ld_toCome hx hb hK hP hI (by omega) (by omega) dX13_reads_88 (fun h_198 => ?_)
              refine jcg_i (va_runV (As := [.int (iI (a_62 2 (g_178 7)))]) (rest := []) ⟨hx, hb, hml, hown, hts⟩ (sX13_steps l dC dI _ ad ca sK sV g_178 a_62 (a_62 2 (g_178 7)) hI (by omega) (by omega) hrP1c) (cwV 1 hts (jgoodV m_241 m_472 m_473 m_503 m_204) rfl rfl rfl (by decide +kernel) ⟨(Nat.le_of_ble_eq_true rfl), (Nat.le_of_ble_eq_true rfl)⟩) ⟨mP_blind, va_recv hK hP (ci := 13) (q0 := 0) rfl rfl, fun U hU hW => ⟨rfl, mP_of hU hW hP hK hD hXs hS (fun _ h => h) hA⟩⟩ rfl rfl hl.1 rfl (lv_room (Nat.le_of_ble_eq_true rfl)) dX13_reads_89 ⟨(Nat.le_of_ble_eq_true rfl), (Nat.le_of_ble_eq_true rfl)⟩) hD hS hA (fun r_199 u_206 H locs w_200 hP hK hD hS => ?_)
              obtain ⟨g_204, a_205⟩ := u_206
              obtain ⟨z_201, rfl, hI, hfr_207, hfr_208, h_202, h_203⟩ := w_200
              have hP : va_P (dC, dI) vwCl (mG ad ca g_204 a_205) H := hP
              have hD : va_D A (mG ad ca g_204 a_205) := hD
              have hfA : ∀ j, j ∉ ([2, 3, 4, 5, 7, 8, 9, 12, 15] : List Nat) → g_204 j = g j := fun j h => (hfr_207 j (fun q => h (by first | exact q | (simp only [List.mem_cons, List.not_mem_nil, or_false] at q ⊢ <;> omega)))).trans (hfA j h)
              have b_210 : g_204 1 = g 1 := hfA 1 (by decide)
              have haA : ∀ j, j ∉ ([2, 3, 4, 5, 6, 7, 8] : List Nat) → a_205 j = a j := fun j h => (hfr_208 j (fun q => h (by first | exact q | (simp only [List.mem_cons, List.not_mem_nil, or_false] at q ⊢ <;> omega)))).trans (haA j h)
              have h_203 : z_201 = 0 ∨ (rPn g_204 a_205 (g_204 7) ∧ mz g_204 a_205 (g_204 7) < mz g_178 a_62 (g_178 7 + 1)) := h_203
              have b_211 : g_204 1 = g_178 1 := hfr_207 1 (by decide)
              have b_212 : 0 ≤ g_204 7 ∧ g_204 7 ≤ 1200 := hI.1 7
              have hn1 := (h_203).imp id (fun q => mz_nn q.1)
              have hn2 := (h_203).imp id (fun q => q.2)
              refine xr_if_ne (tgt := 62) hx hb dX13_reads_92 (by decide) (by omega) (fun h_213 => ?_) (fun h_213 => ?_)
              · exact ih62 g_204 a_205 H locs ls (by first | exact ((h_203).resolve_left (by omega)).1 | exact rPn_0 hs0 rfl rfl (by omega) (by omega) (by omega) (by omega) rfl (by have := tkk_b (g_204 3); rcases (show g_204 3 = 0 ∨ 1 ≤ g_204 2 by omega) with q | q; rw [q, tkk_z]; omega; omega) (by omega)) (by omega) hI hfA haA (by omega) hP hD hS hl
              · refine lv_aload_n hx hb dX13_reads_95 rfl (lv_at hl 1 rfl) ?_
                refine gf_tokenAt hx hb hj hown hK hP hI dX13_reads_96 (fun h_214 => ?_)
                rw [← hQ]
                exact W.iret (v := iI (g_204 4)) hx hb hr (fun t ht hW => ⟨⟨iI (g_204 4), (g_204, a_205), rfl, ⟨g_204 4, rfl, hI, hfA, haA, by omega, by show (g_204 4) ≠ -1 ∨ rF g_204 a_205; first | exact Or.inr (rF_of (show rPn g_204 a_205 (g_204 7) by assumption)) | exact Or.inl (by omega), by show (g_204 4) ≠ -1 ∨ 0 ≤ g_204 12; first | exact Or.inl (by omega) | (obtain ⟨b9, d9, P9, W9, c9, h89, hat9, h29, hcd9, -, -⟩ := (show rPn g_204 a_205 (g_204 7) by assumption); exact Or.inr (Int.le_trans hcd9.1 hcd9.2.1))⟩, by rw [ht]; exact hP, va_K.moved hW.alike hK, hD⟩, hS.F ht⟩) hS.2.2 dX13_reads_99
        exact L62 (((mz g_143 a_144 (g_143 7) : Int)).toNat + 1) g_143 a_144 H locs ls (by first | exact ((h_142).resolve_left (by omega)).1 | exact rPn_0 hs0 t_166 t_167 (by omega) (by omega) (by omega) (by omega) t_165 (by have := tkk_b (g_143 3); rcases (show g_143 3 = 0 ∨ 1 ≤ g_143 2 by omega) with q | q; rw [q, tkk_z]; omega; omega) (by omega)) (by omega) hI hfA haA (by omega) hP hD hS hl
      · refine lv_aload_n hx hb dX13_reads_33 rfl (lv_at hl 1 rfl) ?_
        refine gf_slotBegin hx hb hj hown hK hP dX13_reads_34 ?_
        refine lv_iload_n hx hb dX13_reads_37 rfl (lv_at hl 0 rfl) ?_
        refine lv_iconst (v := iI (-1)) hx hb dX13_reads_38 rfl ?_
        refine st_slotBegin hx hb hK hP hD hS hI (by omega) (by omega) (by omega) (by omega) dX13_reads_39 (fun a_215 H locs e_216 e_217 hI hP hD hS => ?_)
        have haA : ∀ j, j ∉ ([2, 3, 4, 5, 6, 7, 8] : List Nat) → a_215 j = a j := fun j h => (e_216 j (fun q => h (q ▸ (by decide : 5 ∈ ([2, 3, 4, 5, 6, 7, 8] : List Nat))))).trans (haA j h)
        have t_218 : a_215 2 = a 2 := (e_216 2 (by decide)).trans t_106
        have t_219 : a_215 5 = up (a_27 5) v1_27 (-1) := e_217.trans (up_c rfl (by omega) (by omega))
        have t_220 : a_215 6 = a_27 6 := (e_216 6 (by decide)).trans rfl
        refine lv_aload_n hx hb dX13_reads_40 rfl (lv_at hl 1 rfl) ?_
        refine gf_slotEnd hx hb hj hown hK hP dX13_reads_41 ?_
        refine lv_iload_n hx hb dX13_reads_44 rfl (lv_at hl 0 rfl) ?_
        refine lv_iconst (v := iI (-1)) hx hb dX13_reads_45 rfl ?_
        refine st_slotEnd hx hb hK hP hD hS hI (by omega) (by omega) (by omega) (by omega) dX13_reads_46 (fun a_221 H locs e_222 e_223 hI hP hD hS => ?_)
        have haA : ∀ j, j ∉ ([2, 3, 4, 5, 6, 7, 8] : List Nat) → a_221 j = a j := fun j h => (e_222 j (fun q => h (q ▸ (by decide : 6 ∈ ([2, 3, 4, 5, 6, 7, 8] : List Nat))))).trans (haA j h)
        have t_224 : a_221 2 = a 2 := (e_222 2 (by decide)).trans t_218
        have t_225 : a_221 5 = up (a_27 5) v1_27 (-1) := (e_222 5 (by decide)).trans t_219
        have t_226 : a_221 6 = up (a_27 6) v1_27 (-1) := e_223.trans (up_c t_220 (by omega) (by omega))
        refine lv_iinc (v := iI (v1_27 + 1)) (lv' := [(1, .int (iI (v1_27 + 1))), (0, .ref (ad 0))]) hx hb dX13_reads_47 hl (k := 0) rfl (iI_add _ _) (by decide) rfl (fun ls hl => ?_)
        refine lv_goto (tgt := 27) hx hb dX13_reads_50 (by decide) ?_
        exact ih27 (v1_27 + 1) a_221 H locs ls (by omega) (by omega) (by first | exact sl0_0 | exact sl0_s (by assumption) t_225 t_226) t_224 hI haA (by omega) hP hD hS hl
  exact L27 (((14 - 0 : Int)).toNat + 1) 0 a H locs ls (by omega) (by omega) (by first | exact sl0_0 | exact sl0_s (by assumption) rfl rfl) rfl hI haA (by omega) hP hD hS hl
set_option maxHeartbeats 2000000 in
set_option maxRecDepth 100000 in
theorem sX13_fault (l : Launch) (dC : Nat → ClassId) (dI : Nat → Nat → Nat) (sz : Nat) (ad : Nat → Nat) (ca : Nat → ClassId) (sK sV : Nat → Nat) (g : Nat → Int) (a : Nat → Int → Int) (hI : mI g a) : Met l yX13_fault (jk yX13_fault cX13_fault 1 (some .int)) ({ frames := 11, cells := 0, slots := 0, locals := 240 }) (va_Pc [.ref (ad 0)] (mP (dC, dI) (mG ad ca g a) (mT ca) sK sV sz)) (va_Qi (fun (r : Int32) (u : (Nat → Int) × (Nat → Int → Int)) => ∃ z : Int, r = iI z ∧ (mI u.1 u.2) ∧ (∀ j, j ∉ ([2, 3, 4, 5, 7, 8, 9, 12, 15] : List Nat) → u.1 j = g j) ∧ (∀ j, j ∉ ([2, 3, 4, 5, 6, 7, 8] : List Nat) → u.2 j = a j) ∧ (rg z)) (fun u t => va_P (dC, dI) vwCl (mG ad ca u.1 u.2) t.heap ∧ va_K (dC, dI) vwCl (mT ca) t ∧ va_D (va_A (mG ad ca g a) sz) (mG ad ca u.1 u.2)) (va_A (mG ad ca g a) sz)) 0 0 (va_A (mG ad ca g a) sz) := by
  refine Met.ofW (cc := cX13_fault) (maxL := 1) (ret := (some .int)) (by decide) rfl ?_
  intro p e s m args below meth c s₁ B hml hv
  obtain ⟨rfl, ⟨hsz, hP, hK, hD0⟩, hX0⟩ := hv
  have hx := B.exec
  have hb := B.bytes
  have hr := B.returns
  have hts := atoms_spec (ws := (jk yX13_fault cX13_fault 1 (some .int))) B.pre
  have hj : ∀ w ∈ jw, w.before ([.ref (ad 0)] : List Value).toArray s = true := fun w h => hts w (jm h)
  have hown : s.vm.findClass RX13 = some m.cls := findClass_of_methodNamed B.named
  subst hsz
  have hD := hD0.self (sz := s.heap.size)
  have hXs := hX0
  generalize hAe : (va_A (mG ad ca g a) s.heap.size) = A at hD hXs ⊢
  have hA : ∀ q : Nat, s.heap.size ≤ q → A q := fun q h => by rw [← hAe]; exact Or.inr h
  have hS : va_S A s.heap s.heap [] := va_S.rf
  have hP : va_P (dC, dI) vwCl (mG ad ca g a) s.heap := hP
  have hfA : ∀ j, j ∉ ([2, 3, 4, 5, 7, 8, 9, 12, 15] : List Nat) → g j = g j := fun _ _ => rfl
  have haA : ∀ j, j ∉ ([2, 3, 4, 5, 6, 7, 8] : List Nat) → a j = a j := fun _ _ => rfl
  have hl := lv_entry ([.ref (ad 0)]) (n := 1) (Nat.le_of_ble_eq_true rfl)
  rw [lg_entry_eq]
  generalize (lg_sl ([.ref (ad 0)]) ++ List.replicate (1 - (lg_sl ([.ref (ad 0)])).length) Slot.unset).toArray = ls at hl ⊢
  have hl : lv_has ls 1 [(0, .ref (ad 0))] := hl
  generalize hQ : MQ below (va_Qi (fun (r : Int32) (u : (Nat → Int) × (Nat → Int → Int)) => ∃ z : Int, r = iI z ∧ (mI u.1 u.2) ∧ (∀ j, j ∉ ([2, 3, 4, 5, 7, 8, 9, 12, 15] : List Nat) → u.1 j = g j) ∧ (∀ j, j ∉ ([2, 3, 4, 5, 6, 7, 8] : List Nat) → u.2 j = a j) ∧ (rg z)) (fun u t => va_P (dC, dI) vwCl (mG ad ca u.1 u.2) t.heap ∧ va_K (dC, dI) vwCl (mT ca) t ∧ va_D A (mG ad ca u.1 u.2)) A) ([.ref (ad 0)] : List Value).toArray s 0 0 A = Q
  suffices ST : ∀ (H : Heap) (locs : List Loc), va_P (dC, dI) vwCl (mG ad ca g a) H → va_S A s.heap H locs → W p l e ({ frames := 11, cells := 0, slots := 0, locals := 240 }) s m ([.ref (ad 0)] : List Value).toArray below meth c H locs 0 0 Q (F0 m 0 ls []) from ST _ _ hP hS
  clear hP hS
  intro H locs hP hS
  refine lv_aload_n hx hb dX13_fault_0 rfl (lv_at hl 0 rfl) ?_
  refine jcg_i (va_runV (As := []) (rest := []) ⟨hx, hb, hml, hown, hts⟩ (sX13_reads l dC dI _ ad ca sK sV g a  hI ) (cwV 0 hts (jgoodV m_242 m_454 m_455 m_503 m_195) rfl rfl rfl (by decide +kernel) ⟨(Nat.le_of_ble_eq_true rfl), (Nat.le_of_ble_eq_true rfl)⟩) ⟨mP_blind, va_recv hK hP (ci := 13) (q0 := 0) rfl rfl, fun U hU hW => ⟨rfl, mP_of hU hW hP hK hD hXs hS (fun _ h => h) hA⟩⟩ rfl rfl hl.1 rfl (lv_room (Nat.le_of_ble_eq_true rfl)) dX13_fault_1 ⟨(Nat.le_of_ble_eq_true rfl), (Nat.le_of_ble_eq_true rfl)⟩) hD hS hA (fun r_1 u_9 H locs w_2 hP hK hD hS => ?_)
  obtain ⟨g_7, a_8⟩ := u_9
  obtain ⟨z_3, rfl, hI, hfr_10, hfr_11, h_4, h_5, h_6⟩ := w_2
  have hP : va_P (dC, dI) vwCl (mG ad ca g_7 a_8) H := hP
  have hD : va_D A (mG ad ca g_7 a_8) := hD
  have hfA : ∀ j, j ∉ ([2, 3, 4, 5, 7, 8, 9, 12, 15] : List Nat) → g_7 j = g j := fun j h => (hfr_10 j (fun q => h (by first | exact q | (simp only [List.mem_cons, List.not_mem_nil, or_false] at q ⊢ <;> omega)))).trans (hfA j h)
  have haA : ∀ j, j ∉ ([2, 3, 4, 5, 6, 7, 8] : List Nat) → a_8 j = a j := fun j h => (hfr_11 j (fun q => h (by first | exact q | (simp only [List.mem_cons, List.not_mem_nil, or_false] at q ⊢ <;> omega)))).trans (haA j h)
  have h_5 : z_3 ≠ -1 ∨ rF g_7 a_8 := h_5
  have h_6 : z_3 ≠ -1 ∨ 0 ≤ g_7 12 := h_6
  rw [← hQ]
  exact W.iret (v := iI z_3) hx hb hr (fun t ht hW => ⟨⟨iI z_3, (g_7, a_8), rfl, ⟨z_3, rfl, hI, hfA, haA, by omega⟩, by rw [ht]; exact hP, va_K.moved hW.alike hK, hD⟩, hS.F ht⟩) hS.2.2 dX13_fault_4
set_option maxHeartbeats 2000000 in
set_option maxRecDepth 100000 in
theorem sX13_sheet (l : Launch) (dC : Nat → ClassId) (dI : Nat → Nat → Nat) (sz : Nat) (ad : Nat → Nat) (ca : Nat → ClassId) (sK sV : Nat → Nat) (g : Nat → Int) (a : Nat → Int → Int) (hI : mI g a) (hrSh : rSh g a) : Met l yX13_sheet (jk yX13_sheet cX13_sheet 4 (some .int)) ({ frames := 11, cells := 0, slots := 0, locals := 240 }) (va_Pc [.ref (ad 0)] (mP (dC, dI) (mG ad ca g a) (mT ca) sK sV sz)) (va_Qi (fun (r : Int32) (u : (Nat → Int) × (Nat → Int → Int)) => ∃ z : Int, r = iI z ∧ (mI u.1 u.2) ∧ (∀ j, j ∉ ([1, 2, 3, 4, 5, 7, 8, 9, 12, 15, 18] : List Nat) → u.1 j = g j) ∧ (∀ j, j ∉ ([2, 3, 4, 5, 6, 7, 8, 9, 10, 11, 12, 13, 14, 15] : List Nat) → u.2 j = a j) ∧ (rg z) ∧ (rSh u.1 u.2)) (fun u t => va_P (dC, dI) vwCl (mG ad ca u.1 u.2) t.heap ∧ va_K (dC, dI) vwCl (mT ca) t ∧ va_D (va_A (mG ad ca g a) sz) (mG ad ca u.1 u.2)) (va_A (mG ad ca g a) sz)) 0 0 (va_A (mG ad ca g a) sz) := by
  refine Met.ofW (cc := cX13_sheet) (maxL := 4) (ret := (some .int)) (by decide) rfl ?_
  intro p e s m args below meth c s₁ B hml hv
  obtain ⟨rfl, ⟨hsz, hP, hK, hD0⟩, hX0⟩ := hv
  have hx := B.exec
  have hb := B.bytes
  have hr := B.returns
  have hts := atoms_spec (ws := (jk yX13_sheet cX13_sheet 4 (some .int))) B.pre
  have hj : ∀ w ∈ jw, w.before ([.ref (ad 0)] : List Value).toArray s = true := fun w h => hts w (jm h)
  have hown : s.vm.findClass RX13 = some m.cls := findClass_of_methodNamed B.named
  subst hsz
  have hD := hD0.self (sz := s.heap.size)
  have hXs := hX0
  generalize hAe : (va_A (mG ad ca g a) s.heap.size) = A at hD hXs ⊢
  have hA : ∀ q : Nat, s.heap.size ≤ q → A q := fun q h => by rw [← hAe]; exact Or.inr h
  have hS : va_S A s.heap s.heap [] := va_S.rf
  have hP : va_P (dC, dI) vwCl (mG ad ca g a) s.heap := hP
  have hfA : ∀ j, j ∉ ([1, 2, 3, 4, 5, 7, 8, 9, 12, 15, 18] : List Nat) → g j = g j := fun _ _ => rfl
  have haA : ∀ j, j ∉ ([2, 3, 4, 5, 6, 7, 8, 9, 10, 11, 12, 13, 14, 15] : List Nat) → a j = a j := fun _ _ => rfl
  have hl := lv_entry ([.ref (ad 0)]) (n := 4) (Nat.le_of_ble_eq_true rfl)
  rw [lg_entry_eq]
  generalize (lg_sl ([.ref (ad 0)]) ++ List.replicate (4 - (lg_sl ([.ref (ad 0)])).length) Slot.unset).toArray = ls at hl ⊢
  have hl : lv_has ls 4 [(0, .ref (ad 0))] := hl
  generalize hQ : MQ below (va_Qi (fun (r : Int32) (u : (Nat → Int) × (Nat → Int → Int)) => ∃ z : Int, r = iI z ∧ (mI u.1 u.2) ∧ (∀ j, j ∉ ([1, 2, 3, 4, 5, 7, 8, 9, 12, 15, 18] : List Nat) → u.1 j = g j) ∧ (∀ j, j ∉ ([2, 3, 4, 5, 6, 7, 8, 9, 10, 11, 12, 13, 14, 15] : List Nat) → u.2 j = a j) ∧ (rg z) ∧ (rSh u.1 u.2)) (fun u t => va_P (dC, dI) vwCl (mG ad ca u.1 u.2) t.heap ∧ va_K (dC, dI) vwCl (mT ca) t ∧ va_D A (mG ad ca u.1 u.2)) A) ([.ref (ad 0)] : List Value).toArray s 0 0 A = Q
  suffices ST : ∀ (H : Heap) (locs : List Loc), va_P (dC, dI) vwCl (mG ad ca g a) H → va_S A s.heap H locs → W p l e ({ frames := 11, cells := 0, slots := 0, locals := 240 }) s m ([.ref (ad 0)] : List Value).toArray below meth c H locs 0 0 Q (F0 m 0 ls []) from ST _ _ hP hS
  clear hP hS
  intro H locs hP hS
  have hI0 := hI
  have b18_0 : 0 ≤ g 18 ∧ g 18 ≤ 12 := hI.1 18
  refine lv_aload_n hx hb dX13_sheet_0 rfl (lv_at hl 0 rfl) ?_
  refine gf_sheets hx hb hj hown hK hP hI dX13_sheet_1 (fun h_1 => ?_)
  refine lv_bipush (v := iI 12) hx hb dX13_sheet_4 rfl ?_
  refine xr_icmp_eq (tgt := 17) hx hb dX13_sheet_6 (by decide) (by omega) (by omega) (fun h_2 => ?_) (fun h_2 => ?_)
  · refine lv_iconst (v := iI (-1)) hx hb dX13_sheet_17 rfl ?_
    rw [← hQ]
    exact W.iret (v := iI (-1)) hx hb hr (fun t ht hW => ⟨⟨iI (-1), (g, a), rfl, ⟨(-1), rfl, hI, hfA, haA, by omega, by show rSh g a; first | exact rSh_t (by omega) (by omega) rfl rfl rfl rfl rfl hrSh | exact rSh_new hI0 hI hrSh hF n9 n10 n11 n13 rfl rfl rfl rfl rfl (by omega) (by omega)⟩, by rw [ht]; exact hP, va_K.moved hW.alike hK, hD⟩, hS.F ht⟩) hS.2.2 dX13_sheet_18
  · refine lv_aload_n hx hb dX13_sheet_9 rfl (lv_at hl 0 rfl) ?_
    refine jcg_i (va_runV (As := []) (rest := []) ⟨hx, hb, hml, hown, hts⟩ (sX13_reads l dC dI _ ad ca sK sV g a  hI ) (cwV 0 hts (jgoodV m_242 m_454 m_455 m_503 m_195) rfl rfl rfl (by decide +kernel) ⟨(Nat.le_of_ble_eq_true rfl), (Nat.le_of_ble_eq_true rfl)⟩) ⟨mP_blind, va_recv hK hP (ci := 13) (q0 := 0) rfl rfl, fun U hU hW => ⟨rfl, mP_of hU hW hP hK hD hXs hS (fun _ h => h) hA⟩⟩ rfl rfl hl.1 rfl (lv_room (Nat.le_of_ble_eq_true rfl)) dX13_sheet_10 ⟨(Nat.le_of_ble_eq_true rfl), (Nat.le_of_ble_eq_true rfl)⟩) hD hS hA (fun r_3 u_11 H locs w_4 hP hK hD hS => ?_)
    obtain ⟨g_9, a_10⟩ := u_11
    obtain ⟨z_5, rfl, hI, hfr_12, hfr_13, h_6, h_7, h_8⟩ := w_4
    have hP : va_P (dC, dI) vwCl (mG ad ca g_9 a_10) H := hP
    have hD : va_D A (mG ad ca g_9 a_10) := hD
    have hfA : ∀ j, j ∉ ([1, 2, 3, 4, 5, 7, 8, 9, 12, 15, 18] : List Nat) → g_9 j = g j := fun j h => (hfr_12 j (fun q => h (by first | exact q | (simp only [List.mem_cons, List.not_mem_nil, or_false] at q ⊢ <;> omega)))).trans (hfA j h)
    have b_15 : g_9 26 = g 26 := hfA 26 (by decide)
    have b_16 := hfr_12 1 (by decide)
    have b_17 := hfr_12 18 (by decide)
    have haA : ∀ j, j ∉ ([2, 3, 4, 5, 6, 7, 8, 9, 10, 11, 12, 13, 14, 15] : List Nat) → a_10 j = a j := fun j h => (hfr_13 j (fun q => h (by first | exact q | (simp only [List.mem_cons, List.not_mem_nil, or_false] at q ⊢ <;> omega)))).trans (haA j h)
    have h_7 : z_5 ≠ -1 ∨ rF g_9 a_10 := h_7
    have h_8 : z_5 ≠ -1 ∨ 0 ≤ g_9 12 := h_8
    have b_18 : g_9 18 = g 18 := hfr_12 18 (by decide)
    have b_19 : g_9 26 = g 26 := hfr_12 26 (by decide)
    have t_20 : a_10 9 = a 9 := (hfr_13 9 (by decide)).trans rfl
    have t_21 : a_10 10 = a 10 := (hfr_13 10 (by decide)).trans rfl
    have t_22 : a_10 11 = a 11 := (hfr_13 11 (by decide)).trans rfl
    have t_23 : a_10 12 = a 12 := (hfr_13 12 (by decide)).trans rfl
    have t_24 : a_10 16 = a 16 := (hfr_13 16 (by decide)).trans rfl
    refine lv_iconst (v := iI (-1)) hx hb dX13_sheet_13 rfl ?_
    refine xr_icmp_eq (tgt := 19) hx hb dX13_sheet_14 (by decide) (by omega) (by omega) (fun h_25 => ?_) (fun h_25 => ?_)
    · have hF := (h_7).resolve_left (by omega)
      have hF12 := (h_8).resolve_left (by omega)
      refine lv_iconst (v := iI 0) hx hb dX13_sheet_19 rfl ?_
      refine lv_istore_n (lv' := [(1, .int (iI 0)), (0, .ref (ad 0))]) hx hb dX13_sheet_20 rfl hl (by decide) rfl (fun ls hl => ?_)
      have L21 : ∀ (n21 : Nat) (v1_21 : Int) (a_21 : Nat → Int → Int) (H : Heap) (locs : List Loc) (ls : Array Slot), (0 ≤ v1_21 ∧ v1_21 ≤ 2147483647) → (0 ≤ v1_21 ∧ v1_21 ≤ g_9 12) → (cpI (a_21 9) (a 9) (a_10 3) (600 * g 18) (v1_21)) → (cpI (a_21 10) (a 10) (a_10 4) (600 * g 18) (v1_21)) → (a_21 3 = a_10 3) → (a_21 4 = a_10 4) → (a_21 5 = a_10 5) → (a_21 6 = a_10 6) → (a_21 7 = a_10 7) → (a_21 8 = a_10 8) → (a_21 11 = a 11) → (a_21 12 = a 12) → (a_21 16 = a 16) → (mI g_9 a_21) → (∀ j, j ∉ ([2, 3, 4, 5, 6, 7, 8, 9, 10, 11, 12, 13, 14, 15] : List Nat) → a_21 j = a j) → (0 < (n21 : Int) ∧ (g_9 12) - v1_21 < (n21 : Int)) → va_P (dC, dI) vwCl (mG ad ca g_9 a_21) H → va_D A (mG ad ca g_9 a_21) → va_S A s.heap H locs → lv_has ls 4 [(1, .int (iI v1_21)), (0, .ref (ad 0))] → W p l e ({ frames := 11, cells := 0, slots := 0, locals := 240 }) s m ([.ref (ad 0)] : List Value).toArray below meth c H locs 0 0 Q (F0 m 21 ls []) := by
        intro n21
        induction n21 with
        | zero =>
          intro v1_21 a_21 H locs ls h_26 h_27 h_28 h_29 t_30 t_31 t_32 t_33 t_34 t_35 t_36 t_37 t_38 hI haA hm21 hP hD hS hl
          exfalso; omega
        | succ n21 ih21 =>
          intro v1_21 a_21 H locs ls h_39 h_40 h_41 h_42 t_43 t_44 t_45 t_46 t_47 t_48 t_49 t_50 t_51 hI haA hm21 hP hD hS hl
          refine lv_iload_n hx hb dX13_sheet_21 rfl (lv_at hl 0 rfl) ?_
          refine lv_aload_n hx hb dX13_sheet_22 rfl (lv_at hl 1 rfl) ?_
          refine gf_doing hx hb hj hown hK hP hI dX13_sheet_23 (fun h_52 => ?_)
          refine xr_icmp_ge (tgt := 77) hx hb dX13_sheet_26 (by decide) (by omega) (by omega) (fun h_53 => ?_) (fun h_53 => ?_)
          · have n12 : v1_21 = g_9 12 := by omega
            have n9 := (show cpI (a_21 9) (a 9) _ _ _ by assumption)
            rw [n12] at n9
            have n10 := (show cpI (a_21 10) (a 10) _ _ _ by assumption)
            rw [n12] at n10
            refine lv_iconst (v := iI 0) hx hb dX13_sheet_77 rfl ?_
            refine lv_istore_n (lv' := [(1, .int (iI 0)), (0, .ref (ad 0))]) hx hb dX13_sheet_78 rfl hl (by decide) rfl (fun ls hl => ?_)
            have L79 : ∀ (n79 : Nat) (v1_79 : Int) (a_79 : Nat → Int → Int) (H : Heap) (locs : List Loc) (ls : Array Slot), (0 ≤ v1_79 ∧ v1_79 ≤ 2147483647) → (0 ≤ v1_79 ∧ v1_79 ≤ 14) → (cpI (a_79 11) (a 11) (a_10 5) (14 * g 18) (v1_79)) → (cpI (a_79 12) (a 12) (a_10 6) (14 * g 18) (v1_79)) → (a_79 3 = a_10 3) → (a_79 4 = a_10 4) → (a_79 5 = a_10 5) → (a_79 6 = a_10 6) → (a_79 7 = a_10 7) → (a_79 8 = a_10 8) → (a_79 9 = a_21 9) → (a_79 10 = a_21 10) → (a_79 16 = a 16) → (mI g_9 a_79) → (∀ j, j ∉ ([2, 3, 4, 5, 6, 7, 8, 9, 10, 11, 12, 13, 14, 15] : List Nat) → a_79 j = a j) → (0 < (n79 : Int) ∧ 14 - v1_79 < (n79 : Int)) → va_P (dC, dI) vwCl (mG ad ca g_9 a_79) H → va_D A (mG ad ca g_9 a_79) → va_S A s.heap H locs → lv_has ls 4 [(1, .int (iI v1_79)), (0, .ref (ad 0))] → W p l e ({ frames := 11, cells := 0, slots := 0, locals := 240 }) s m ([.ref (ad 0)] : List Value).toArray below meth c H locs 0 0 Q (F0 m 79 ls []) := by
              intro n79
              induction n79 with
              | zero =>
                intro v1_79 a_79 H locs ls h_54 h_55 h_56 h_57 t_58 t_59 t_60 t_61 t_62 t_63 t_64 t_65 t_66 hI haA hm79 hP hD hS hl
                exfalso; omega
              | succ n79 ih79 =>
                intro v1_79 a_79 H locs ls h_67 h_68 h_69 h_70 t_71 t_72 t_73 t_74 t_75 t_76 t_77 t_78 t_79 hI haA hm79 hP hD hS hl
                refine lv_iload_n hx hb dX13_sheet_79 rfl (lv_at hl 0 rfl) ?_
                refine lv_bipush (v := iI 14) hx hb dX13_sheet_80 rfl ?_
                refine xr_icmp_ge (tgt := 131) hx hb dX13_sheet_82 (by decide) (by omega) (by omega) (fun h_80 => ?_) (fun h_80 => ?_)
                · have n14 : v1_79 = 14 := by omega
                  have n11 := (show cpI (a_79 11) (a 11) _ _ _ by assumption)
                  rw [n14] at n11
                  have n13 := (show cpI (a_79 12) (a 12) _ _ _ by assumption)
                  rw [n14] at n13
                  refine lv_aload_n hx hb dX13_sheet_131 rfl (lv_at hl 1 rfl) ?_
                  refine gf_sheetSkips hx hb hj hown hK hP dX13_sheet_132 ?_
                  refine lv_aload_n hx hb dX13_sheet_135 rfl (lv_at hl 1 rfl) ?_
                  refine gf_sheets hx hb hj hown hK hP hI dX13_sheet_136 (fun h_81 => ?_)
                  refine lv_aload_n hx hb dX13_sheet_139 rfl (lv_at hl 1 rfl) ?_
                  refine gf_skips hx hb hj hown hK hP hI dX13_sheet_140 (fun h_82 => ?_)
                  refine st_sheetSkips hx hb hK hP hD hS hI (by omega) (by omega) (by omega) (by omega) dX13_sheet_143 (fun a_83 H locs e_84 e_85 hI hP hD hS => ?_)
                  have haA : ∀ j, j ∉ ([2, 3, 4, 5, 6, 7, 8, 9, 10, 11, 12, 13, 14, 15] : List Nat) → a_83 j = a j := fun j h => (e_84 j (fun q => h (q ▸ (by decide : 13 ∈ ([2, 3, 4, 5, 6, 7, 8, 9, 10, 11, 12, 13, 14, 15] : List Nat))))).trans (haA j h)
                  have t_86 : a_83 3 = a_10 3 := (e_84 3 (by decide)).trans t_71
                  have t_87 : a_83 4 = a_10 4 := (e_84 4 (by decide)).trans t_72
                  have t_88 : a_83 5 = a_10 5 := (e_84 5 (by decide)).trans t_73
                  have t_89 : a_83 6 = a_10 6 := (e_84 6 (by decide)).trans t_74
                  have t_90 : a_83 7 = a_10 7 := (e_84 7 (by decide)).trans t_75
                  have t_91 : a_83 8 = a_10 8 := (e_84 8 (by decide)).trans t_76
                  have t_92 : a_83 9 = a_21 9 := (e_84 9 (by decide)).trans t_77
                  have t_93 : a_83 10 = a_21 10 := (e_84 10 (by decide)).trans t_78
                  have t_94 : a_83 11 = a_79 11 := (e_84 11 (by decide)).trans rfl
                  have t_95 : a_83 12 = a_79 12 := (e_84 12 (by decide)).trans rfl
                  have t_96 : a_83 16 = a 16 := (e_84 16 (by decide)).trans t_79
                  refine lv_iconst (v := iI 0) hx hb dX13_sheet_144 rfl ?_
                  refine lv_istore_n (lv' := [(1, .int (iI 0)), (0, .ref (ad 0))]) hx hb dX13_sheet_145 rfl hl (by decide) rfl (fun ls hl => ?_)
                  have L146 : ∀ (n146 : Nat) (v1_146 : Int) (a_146 : Nat → Int → Int) (H : Heap) (locs : List Loc) (ls : Array Slot), (0 ≤ v1_146 ∧ v1_146 ≤ 4) → (0 ≤ v1_146) → (a_146 3 = a_10 3) → (a_146 4 = a_10 4) → (a_146 5 = a_10 5) → (a_146 6 = a_10 6) → (a_146 7 = a_10 7) → (a_146 8 = a_10 8) → (a_146 9 = a_21 9) → (a_146 10 = a_21 10) → (a_146 11 = a_79 11) → (a_146 12 = a_79 12) → (a_146 16 = a 16) → (mI g_9 a_146) → (∀ j, j ∉ ([2, 3, 4, 5, 6, 7, 8, 9, 10, 11, 12, 13, 14, 15] : List Nat) → a_146 j = a j) → (0 < (n146 : Int) ∧ (g_9 15) - v1_146 < (n146 : Int)) → va_P (dC, dI) vwCl (mG ad ca g_9 a_146) H → va_D A (mG ad ca g_9 a_146) → va_S A s.heap H locs → lv_has ls 4 [(1, .int (iI v1_146)), (0, .ref (ad 0))] → W p l e ({ frames := 11, cells := 0, slots := 0, locals := 240 }) s m ([.ref (ad 0)] : List Value).toArray below meth c H locs 0 0 Q (F0 m 146 ls []) := by
                    intro n146
                    induction n146 with
                    | zero =>
                      intro v1_146 a_146 H locs ls h_97 h_98 t_99 t_100 t_101 t_102 t_103 t_104 t_105 t_106 t_107 t_108 t_109 hI haA hm146 hP hD hS hl
                      exfalso; omega
                    | succ n146 ih146 =>
                      intro v1_146 a_146 H locs ls h_110 h_111 t_112 t_113 t_114 t_115 t_116 t_117 t_118 t_119 t_120 t_121 t_122 hI haA hm146 hP hD hS hl
                      refine lv_iload_n hx hb dX13_sheet_146 rfl (lv_at hl 0 rfl) ?_
                      refine lv_aload_n hx hb dX13_sheet_147 rfl (lv_at hl 1 rfl) ?_
                      refine gf_skips hx hb hj hown hK hP hI dX13_sheet_148 (fun h_123 => ?_)
                      refine xr_icmp_ge (tgt := 223) hx hb dX13_sheet_151 (by decide) (by omega) (by omega) (fun h_124 => ?_) (fun h_124 => ?_)
                      · refine lv_aload_n hx hb dX13_sheet_223 rfl (lv_at hl 1 rfl) ?_
                        refine lv_iconst (v := iI 0) hx hb dX13_sheet_224 rfl ?_
                        refine pf_size hx hb hj hown hK hP hD hS hI (by omega) (by omega) dX13_sheet_225 (fun g_125 H locs e_126 e_127 hI hP hD hS => ?_)
                        have hfA : ∀ j, j ∉ ([1, 2, 3, 4, 5, 7, 8, 9, 12, 15, 18] : List Nat) → g_125 j = g j := fun j h => (e_126 j (fun q => h (q ▸ (by decide : 1 ∈ ([1, 2, 3, 4, 5, 7, 8, 9, 12, 15, 18] : List Nat))))).trans (hfA j h)
                        have b_128 := e_126 12 (by decide)
                        have b_129 := e_126 15 (by decide)
                        have b_130 := e_126 18 (by decide)
                        have b_131 : g_125 26 = g 26 := hfA 26 (by decide)
                        have b_132 := e_126 12 (by decide)
                        have b_133 := e_126 15 (by decide)
                        have b_134 := e_126 18 (by decide)
                        have b_135 := e_126 26 (by decide)
                        refine lv_aload_n hx hb dX13_sheet_228 rfl (lv_at hl 1 rfl) ?_
                        refine lv_dup hx hb dX13_sheet_229 rfl ?_
                        refine gf_sheets hx hb hj hown hK hP hI dX13_sheet_230 (fun h_136 => ?_)
                        refine lv_iconst (v := iI 1) hx hb dX13_sheet_233 rfl ?_
                        refine xr_add hx hb dX13_sheet_234 ?_
                        refine pf_sheets hx hb hj hown hK hP hD hS hI (by omega) (by omega) dX13_sheet_235 (fun g_137 H locs e_138 e_139 hI hP hD hS => ?_)
                        have hfA : ∀ j, j ∉ ([1, 2, 3, 4, 5, 7, 8, 9, 12, 15, 18] : List Nat) → g_137 j = g j := fun j h => (e_138 j (fun q => h (q ▸ (by decide : 18 ∈ ([1, 2, 3, 4, 5, 7, 8, 9, 12, 15, 18] : List Nat))))).trans (hfA j h)
                        have b_140 := e_138 1 (by decide)
                        have b_141 := e_138 12 (by decide)
                        have b_142 := e_138 15 (by decide)
                        have b_143 : g_137 26 = g 26 := hfA 26 (by decide)
                        have b_144 := e_138 12 (by decide)
                        have b_145 := e_138 15 (by decide)
                        have b_146 := e_138 26 (by decide)
                        refine lv_aload_n hx hb dX13_sheet_238 rfl (lv_at hl 1 rfl) ?_
                        refine gf_sheets hx hb hj hown hK hP hI dX13_sheet_239 (fun h_147 => ?_)
                        refine lv_iconst (v := iI 1) hx hb dX13_sheet_242 rfl ?_
                        refine xr_sub hx hb dX13_sheet_243 ?_
                        rw [← hQ]
                        exact W.iret (v := iI ((g_137 18) - 1)) hx hb hr (fun t ht hW => ⟨⟨iI ((g_137 18) - 1), (g_137, a_146), rfl, ⟨(g_137 18) - 1, rfl, hI, hfA, haA, by omega, by show rSh g_137 a_146; first | exact rSh_t (by omega) (by omega) t_118 t_119 t_120 t_121 t_122 hrSh | exact rSh_new hI0 hI hrSh hF n9 n10 n11 n13 t_118 t_119 t_120 t_121 t_122 (by omega) (by omega)⟩, by rw [ht]; exact hP, va_K.moved hW.alike hK, hD⟩, hS.F ht⟩) hS.2.2 dX13_sheet_244
                      · refine lv_iconst (v := iI 4) hx hb dX13_sheet_154 rfl ?_
                        refine lv_aload_n hx hb dX13_sheet_155 rfl (lv_at hl 1 rfl) ?_
                        refine gf_sheets hx hb hj hown hK hP hI dX13_sheet_156 (fun h_148 => ?_)
                        refine xr_mul hx hb dX13_sheet_159 ?_
                        refine lv_iload_n hx hb dX13_sheet_160 rfl (lv_at hl 0 rfl) ?_
                        refine xr_add hx hb dX13_sheet_161 ?_
                        refine lv_istore_n (lv' := [(2, .int (iI ((4 * (g_9 18)) + v1_146))), (1, .int (iI v1_146)), (0, .ref (ad 0))]) hx hb dX13_sheet_162 rfl hl (by decide) rfl (fun ls hl => ?_)
                        refine lv_aload_n hx hb dX13_sheet_163 rfl (lv_at hl 2 rfl) ?_
                        refine gf_skipSize hx hb hj hown hK hP dX13_sheet_164 ?_
                        refine lv_iload_n hx hb dX13_sheet_167 rfl (lv_at hl 0 rfl) ?_
                        refine lv_aload_n hx hb dX13_sheet_168 rfl (lv_at hl 2 rfl) ?_
                        refine gf_skipLong hx hb hj hown hK hP dX13_sheet_169 ?_
                        refine lv_iload_n hx hb dX13_sheet_172 rfl (lv_at hl 1 rfl) ?_
                        refine ld_skipLong hx hb hK hP hI (by omega) (by omega) dX13_sheet_173 (fun h_149 => ?_)
                        refine st_skipSize hx hb hK hP hD hS hI (by omega) (by omega) (by omega) (by omega) dX13_sheet_174 (fun a_150 H locs e_151 e_152 hI hP hD hS => ?_)
                        have haA : ∀ j, j ∉ ([2, 3, 4, 5, 6, 7, 8, 9, 10, 11, 12, 13, 14, 15] : List Nat) → a_150 j = a j := fun j h => (e_151 j (fun q => h (q ▸ (by decide : 15 ∈ ([2, 3, 4, 5, 6, 7, 8, 9, 10, 11, 12, 13, 14, 15] : List Nat))))).trans (haA j h)
                        have t_153 : a_150 3 = a_10 3 := (e_151 3 (by decide)).trans t_112
                        have t_154 : a_150 4 = a_10 4 := (e_151 4 (by decide)).trans t_113
                        have t_155 : a_150 5 = a_10 5 := (e_151 5 (by decide)).trans t_114
                        have t_156 : a_150 6 = a_10 6 := (e_151 6 (by decide)).trans t_115
                        have t_157 : a_150 7 = a_10 7 := (e_151 7 (by decide)).trans t_116
                        have t_158 : a_150 8 = a_10 8 := (e_151 8 (by decide)).trans t_117
                        have t_159 : a_150 9 = a_21 9 := (e_151 9 (by decide)).trans t_118
                        have t_160 : a_150 10 = a_21 10 := (e_151 10 (by decide)).trans t_119
                        have t_161 : a_150 11 = a_79 11 := (e_151 11 (by decide)).trans t_120
                        have t_162 : a_150 12 = a_79 12 := (e_151 12 (by decide)).trans t_121
                        have t_163 : a_150 16 = a 16 := (e_151 16 (by decide)).trans t_122
                        refine lv_iconst (v := iI 0) hx hb dX13_sheet_175 rfl ?_
                        refine lv_istore_n (lv' := [(3, .int (iI 0)), (2, .int (iI ((4 * (g_9 18)) + v1_146))), (1, .int (iI v1_146)), (0, .ref (ad 0))]) hx hb dX13_sheet_176 rfl hl (by decide) rfl (fun ls hl => ?_)
                        have L177 : ∀ (n177 : Nat) (v3_177 : Int) (a_177 : Nat → Int → Int) (H : Heap) (locs : List Loc) (ls : Array Slot), (0 ≤ v3_177 ∧ v3_177 ≤ 2147483647) → (0 ≤ v3_177) → (a_177 3 = a_10 3) → (a_177 4 = a_10 4) → (a_177 5 = a_10 5) → (a_177 6 = a_10 6) → (a_177 7 = a_10 7) → (a_177 8 = a_10 8) → (a_177 9 = a_21 9) → (a_177 10 = a_21 10) → (a_177 11 = a_79 11) → (a_177 12 = a_79 12) → (a_177 16 = a 16) → (mI g_9 a_177) → (∀ j, j ∉ ([2, 3, 4, 5, 6, 7, 8, 9, 10, 11, 12, 13, 14, 15] : List Nat) → a_177 j = a j) → (0 < (n177 : Int) ∧ (a_177 8 v1_146) - v3_177 < (n177 : Int)) → va_P (dC, dI) vwCl (mG ad ca g_9 a_177) H → va_D A (mG ad ca g_9 a_177) → va_S A s.heap H locs → lv_has ls 4 [(3, .int (iI v3_177)), (2, .int (iI ((4 * (g_9 18)) + v1_146))), (1, .int (iI v1_146)), (0, .ref (ad 0))] → W p l e ({ frames := 11, cells := 0, slots := 0, locals := 240 }) s m ([.ref (ad 0)] : List Value).toArray below meth c H locs 0 0 Q (F0 m 177 ls []) := by
                          intro n177
                          induction n177 with
                          | zero =>
                            intro v3_177 a_177 H locs ls h_164 h_165 t_166 t_167 t_168 t_169 t_170 t_171 t_172 t_173 t_174 t_175 t_176 hI haA hm177 hP hD hS hl
                            exfalso; omega
                          | succ n177 ih177 =>
                            intro v3_177 a_177 H locs ls h_177 h_178 t_179 t_180 t_181 t_182 t_183 t_184 t_185 t_186 t_187 t_188 t_189 hI haA hm177 hP hD hS hl
                            refine lv_iload_n hx hb dX13_sheet_177 rfl (lv_at hl 0 rfl) ?_
                            refine lv_aload_n hx hb dX13_sheet_178 rfl (lv_at hl 3 rfl) ?_
                            refine gf_skipLong hx hb hj hown hK hP dX13_sheet_179 ?_
                            refine lv_iload_n hx hb dX13_sheet_182 rfl (lv_at hl 2 rfl) ?_
                            refine ld_skipLong hx hb hK hP hI (by omega) (by omega) dX13_sheet_183 (fun h_190 => ?_)
                            refine xr_icmp_ge (tgt := 217) hx hb dX13_sheet_184 (by decide) (by omega) (by omega) (fun h_191 => ?_) (fun h_191 => ?_)
                            · refine lv_iinc (v := iI (v1_146 + 1)) (lv' := [(1, .int (iI (v1_146 + 1))), (3, .int (iI v3_177)), (2, .int (iI ((4 * (g_9 18)) + v1_146))), (0, .ref (ad 0))]) hx hb dX13_sheet_217 hl (k := 2) rfl (iI_add _ _) (by decide) rfl (fun ls hl => ?_)
                              refine lv_goto (tgt := 146) hx hb dX13_sheet_220 (by decide) ?_
                              exact ih146 (v1_146 + 1) a_177 H locs ls (by omega) (by omega) t_179 t_180 t_181 t_182 t_183 t_184 t_185 t_186 t_187 t_188 t_189 hI haA (by omega) hP hD hS (lv_sub hl [0, 3] rfl)
                            · refine lv_aload_n hx hb dX13_sheet_187 rfl (lv_at hl 3 rfl) ?_
                              refine gf_skipText hx hb hj hown hK hP dX13_sheet_188 ?_
                              refine lv_bipush (v := iI 8) hx hb dX13_sheet_191 rfl ?_
                              refine lv_iload_n hx hb dX13_sheet_193 rfl (lv_at hl 1 rfl) ?_
                              refine xr_mul hx hb dX13_sheet_194 ?_
                              refine lv_iload_n hx hb dX13_sheet_195 rfl (lv_at hl 0 rfl) ?_
                              refine xr_add hx hb dX13_sheet_196 ?_
                              refine lv_aload_n hx hb dX13_sheet_197 rfl (lv_at hl 3 rfl) ?_
                              refine gf_text hx hb hj hown hK hP dX13_sheet_198 ?_
                              refine lv_aload_n hx hb dX13_sheet_201 rfl (lv_at hl 3 rfl) ?_
                              refine gf_skipAt hx hb hj hown hK hP dX13_sheet_202 ?_
                              refine lv_iload_n hx hb dX13_sheet_205 rfl (lv_at hl 2 rfl) ?_
                              refine ld_skipAt hx hb hK hP hI (by omega) (by omega) dX13_sheet_206 (fun h_192 => ?_)
                              refine lv_iload_n hx hb dX13_sheet_207 rfl (lv_at hl 0 rfl) ?_
                              have c7 := congrFun t_183 (v1_146)
                              have c8 := congrFun t_184 (v1_146)
                              have ck := hF.2 (v1_146) (by omega) (by omega)
                              refine xr_add hx hb dX13_sheet_208 ?_
                              refine ld_text hx hb hK hP hI (by omega) (by omega) dX13_sheet_209 (fun h_193 => ?_)
                              refine st_skipText hx hb hK hP hD hS hI (by omega) (by omega) dX13_sheet_210 (fun a_194 z_197 H locs h_198 e_195 e_196 hI hP hD hS => ?_)
                              have haA : ∀ j, j ∉ ([2, 3, 4, 5, 6, 7, 8, 9, 10, 11, 12, 13, 14, 15] : List Nat) → a_194 j = a j := fun j h => (e_195 j (fun q => h (q ▸ (by decide : 14 ∈ ([2, 3, 4, 5, 6, 7, 8, 9, 10, 11, 12, 13, 14, 15] : List Nat))))).trans (haA j h)
                              have t_199 : a_194 3 = a_10 3 := (e_195 3 (by decide)).trans t_179
                              have t_200 : a_194 4 = a_10 4 := (e_195 4 (by decide)).trans t_180
                              have t_201 : a_194 5 = a_10 5 := (e_195 5 (by decide)).trans t_181
                              have t_202 : a_194 6 = a_10 6 := (e_195 6 (by decide)).trans t_182
                              have t_203 : a_194 7 = a_10 7 := (e_195 7 (by decide)).trans t_183
                              have t_204 : a_194 8 = a_10 8 := (e_195 8 (by decide)).trans t_184
                              have t_205 : a_194 9 = a_21 9 := (e_195 9 (by decide)).trans t_185
                              have t_206 : a_194 10 = a_21 10 := (e_195 10 (by decide)).trans t_186
                              have t_207 : a_194 11 = a_79 11 := (e_195 11 (by decide)).trans t_187
                              have t_208 : a_194 12 = a_79 12 := (e_195 12 (by decide)).trans t_188
                              have t_209 : a_194 16 = a 16 := (e_195 16 (by decide)).trans t_189
                              have c8b := congrFun t_204 (v1_146)
                              refine lv_iinc (v := iI (v3_177 + 1)) (lv' := [(3, .int (iI (v3_177 + 1))), (2, .int (iI ((4 * (g_9 18)) + v1_146))), (1, .int (iI v1_146)), (0, .ref (ad 0))]) hx hb dX13_sheet_211 hl (k := 0) rfl (iI_add _ _) (by decide) rfl (fun ls hl => ?_)
                              refine lv_goto (tgt := 177) hx hb dX13_sheet_214 (by decide) ?_
                              exact ih177 (v3_177 + 1) a_194 H locs ls (by omega) (by omega) t_199 t_200 t_201 t_202 t_203 t_204 t_205 t_206 t_207 t_208 t_209 hI haA (by omega) hP hD hS hl
                        exact L177 ((((a_150 8 v1_146) - 0 : Int)).toNat + 1) 0 a_150 H locs ls (by omega) (by omega) t_153 t_154 t_155 t_156 t_157 t_158 t_159 t_160 t_161 t_162 t_163 hI haA (by omega) hP hD hS hl
                  exact L146 ((((g_9 15) - 0 : Int)).toNat + 1) 0 a_83 H locs ls (by omega) (by omega) t_86 t_87 t_88 t_89 t_90 t_91 t_92 t_93 t_94 t_95 t_96 hI haA (by omega) hP hD hS hl
                · refine lv_aload_n hx hb dX13_sheet_85 rfl (lv_at hl 1 rfl) ?_
                  refine gf_sheetBegin hx hb hj hown hK hP dX13_sheet_86 ?_
                  refine lv_bipush (v := iI 14) hx hb dX13_sheet_89 rfl ?_
                  refine lv_aload_n hx hb dX13_sheet_91 rfl (lv_at hl 1 rfl) ?_
                  refine gf_sheets hx hb hj hown hK hP hI dX13_sheet_92 (fun h_210 => ?_)
                  refine xr_mul hx hb dX13_sheet_95 ?_
                  refine lv_iload_n hx hb dX13_sheet_96 rfl (lv_at hl 0 rfl) ?_
                  refine xr_add hx hb dX13_sheet_97 ?_
                  refine lv_aload_n hx hb dX13_sheet_98 rfl (lv_at hl 1 rfl) ?_
                  refine gf_slotBegin hx hb hj hown hK hP dX13_sheet_99 ?_
                  refine lv_iload_n hx hb dX13_sheet_102 rfl (lv_at hl 0 rfl) ?_
                  have c5 := congrFun t_73 (v1_79)
                  refine ld_slotBegin hx hb hK hP hI (by omega) (by omega) dX13_sheet_103 (fun h_211 => ?_)
                  refine st_sheetBegin hx hb hK hP hD hS hI (by omega) (by omega) (by omega) (by omega) dX13_sheet_104 (fun a_212 H locs e_213 e_214 hI hP hD hS => ?_)
                  have haA : ∀ j, j ∉ ([2, 3, 4, 5, 6, 7, 8, 9, 10, 11, 12, 13, 14, 15] : List Nat) → a_212 j = a j := fun j h => (e_213 j (fun q => h (q ▸ (by decide : 11 ∈ ([2, 3, 4, 5, 6, 7, 8, 9, 10, 11, 12, 13, 14, 15] : List Nat))))).trans (haA j h)
                  have t_215 : a_212 3 = a_10 3 := (e_213 3 (by decide)).trans t_71
                  have t_216 : a_212 4 = a_10 4 := (e_213 4 (by decide)).trans t_72
                  have t_217 : a_212 5 = a_10 5 := (e_213 5 (by decide)).trans t_73
                  have t_218 : a_212 6 = a_10 6 := (e_213 6 (by decide)).trans t_74
                  have t_219 : a_212 7 = a_10 7 := (e_213 7 (by decide)).trans t_75
                  have t_220 : a_212 8 = a_10 8 := (e_213 8 (by decide)).trans t_76
                  have t_221 : a_212 9 = a_21 9 := (e_213 9 (by decide)).trans t_77
                  have t_222 : a_212 10 = a_21 10 := (e_213 10 (by decide)).trans t_78
                  have t_223 : a_212 11 = up (a_79 11) ((14 * (g 18)) + v1_79) (a_79 5 v1_79) := e_214.trans (up_c rfl (by omega) (by omega))
                  have t_224 : a_212 12 = a_79 12 := (e_213 12 (by decide)).trans rfl
                  have t_225 : a_212 16 = a 16 := (e_213 16 (by decide)).trans t_79
                  refine lv_aload_n hx hb dX13_sheet_105 rfl (lv_at hl 1 rfl) ?_
                  refine gf_sheetEnd hx hb hj hown hK hP dX13_sheet_106 ?_
                  refine lv_bipush (v := iI 14) hx hb dX13_sheet_109 rfl ?_
                  refine lv_aload_n hx hb dX13_sheet_111 rfl (lv_at hl 1 rfl) ?_
                  refine gf_sheets hx hb hj hown hK hP hI dX13_sheet_112 (fun h_226 => ?_)
                  refine xr_mul hx hb dX13_sheet_115 ?_
                  refine lv_iload_n hx hb dX13_sheet_116 rfl (lv_at hl 0 rfl) ?_
                  refine xr_add hx hb dX13_sheet_117 ?_
                  refine lv_aload_n hx hb dX13_sheet_118 rfl (lv_at hl 1 rfl) ?_
                  refine gf_slotEnd hx hb hj hown hK hP dX13_sheet_119 ?_
                  refine lv_iload_n hx hb dX13_sheet_122 rfl (lv_at hl 0 rfl) ?_
                  have c6 := congrFun t_218 (v1_79)
                  refine ld_slotEnd hx hb hK hP hI (by omega) (by omega) dX13_sheet_123 (fun h_227 => ?_)
                  refine st_sheetEnd hx hb hK hP hD hS hI (by omega) (by omega) (by omega) (by omega) dX13_sheet_124 (fun a_228 H locs e_229 e_230 hI hP hD hS => ?_)
                  have haA : ∀ j, j ∉ ([2, 3, 4, 5, 6, 7, 8, 9, 10, 11, 12, 13, 14, 15] : List Nat) → a_228 j = a j := fun j h => (e_229 j (fun q => h (q ▸ (by decide : 12 ∈ ([2, 3, 4, 5, 6, 7, 8, 9, 10, 11, 12, 13, 14, 15] : List Nat))))).trans (haA j h)
                  have t_231 : a_228 3 = a_10 3 := (e_229 3 (by decide)).trans t_215
                  have t_232 : a_228 4 = a_10 4 := (e_229 4 (by decide)).trans t_216
                  have t_233 : a_228 5 = a_10 5 := (e_229 5 (by decide)).trans t_217
                  have t_234 : a_228 6 = a_10 6 := (e_229 6 (by decide)).trans t_218
                  have t_235 : a_228 7 = a_10 7 := (e_229 7 (by decide)).trans t_219
                  have t_236 : a_228 8 = a_10 8 := (e_229 8 (by decide)).trans t_220
                  have t_237 : a_228 9 = a_21 9 := (e_229 9 (by decide)).trans t_221
                  have t_238 : a_228 10 = a_21 10 := (e_229 10 (by decide)).trans t_222
                  have t_239 : a_228 11 = up (a_79 11) ((14 * (g 18)) + v1_79) (a_79 5 v1_79) := (e_229 11 (by decide)).trans t_223
                  have t_240 : a_228 12 = up (a_79 12) ((14 * (g 18)) + v1_79) (a_212 6 v1_79) := e_230.trans (up_c t_224 (by omega) (by omega))
                  have t_241 : a_228 16 = a 16 := (e_229 16 (by decide)).trans t_225
                  refine lv_iinc (v := iI (v1_79 + 1)) (lv' := [(1, .int (iI (v1_79 + 1))), (0, .ref (ad 0))]) hx hb dX13_sheet_125 hl (k := 0) rfl (iI_add _ _) (by decide) rfl (fun ls hl => ?_)
                  refine lv_goto (tgt := 79) hx hb dX13_sheet_128 (by decide) ?_
                  exact ih79 (v1_79 + 1) a_228 H locs ls (by omega) (by omega) (by first | exact cpI_0 t_239 | exact cpI_s (by assumption) t_239 c5 (by omega)) (by first | exact cpI_0 t_240 | exact cpI_s (by assumption) t_240 c6 (by omega)) t_231 t_232 t_233 t_234 t_235 t_236 t_237 t_238 t_241 hI haA (by omega) hP hD hS hl
            exact L79 (((14 - 0 : Int)).toNat + 1) 0 a_21 H locs ls (by omega) (by omega) (by first | exact cpI_0 t_49 | exact cpI_s (by assumption) t_49 c5 (by omega)) (by first | exact cpI_0 t_50 | exact cpI_s (by assumption) t_50 c6 (by omega)) t_43 t_44 t_45 t_46 t_47 t_48 rfl rfl t_51 hI haA (by omega) hP hD hS hl
          · refine lv_aload_n hx hb dX13_sheet_29 rfl (lv_at hl 1 rfl) ?_
            refine gf_codes hx hb hj hown hK hP dX13_sheet_30 ?_
            refine lv_sipush (v := iI 600) hx hb dX13_sheet_33 rfl ?_
            refine lv_aload_n hx hb dX13_sheet_36 rfl (lv_at hl 1 rfl) ?_
            refine gf_sheets hx hb hj hown hK hP hI dX13_sheet_37 (fun h_242 => ?_)
            refine xr_mul hx hb dX13_sheet_40 ?_
            refine lv_iload_n hx hb dX13_sheet_41 rfl (lv_at hl 0 rfl) ?_
            refine xr_add hx hb dX13_sheet_42 ?_
            refine lv_aload_n hx hb dX13_sheet_43 rfl (lv_at hl 1 rfl) ?_
            refine gf_does hx hb hj hown hK hP dX13_sheet_44 ?_
            refine lv_iload_n hx hb dX13_sheet_47 rfl (lv_at hl 0 rfl) ?_
            have c3 := congrFun t_43 (v1_21)
            refine ld_does hx hb hK hP hI (by omega) (by omega) dX13_sheet_48 (fun h_243 => ?_)
            refine sa_codes hx hb hK hP hD hS hI (by omega) (by omega) dX13_sheet_49 (fun a_244 z_247 H locs h_248 h_249 e_245 e_246 hI hP hD hS => ?_)
            have haA : ∀ j, j ∉ ([2, 3, 4, 5, 6, 7, 8, 9, 10, 11, 12, 13, 14, 15] : List Nat) → a_244 j = a j := fun j h => (e_245 j (fun q => h (q ▸ (by decide : 9 ∈ ([2, 3, 4, 5, 6, 7, 8, 9, 10, 11, 12, 13, 14, 15] : List Nat))))).trans (haA j h)
            have t_250 : a_244 3 = a_10 3 := (e_245 3 (by decide)).trans t_43
            have t_251 : a_244 4 = a_10 4 := (e_245 4 (by decide)).trans t_44
            have t_252 : a_244 5 = a_10 5 := (e_245 5 (by decide)).trans t_45
            have t_253 : a_244 6 = a_10 6 := (e_245 6 (by decide)).trans t_46
            have t_254 : a_244 7 = a_10 7 := (e_245 7 (by decide)).trans t_47
            have t_255 : a_244 8 = a_10 8 := (e_245 8 (by decide)).trans t_48
            have t_256 : a_244 9 = up (a_21 9) ((600 * (g 18)) + v1_21) (a_21 3 v1_21) := e_246.trans (up_c rfl (by omega) (by omega))
            have t_257 : a_244 10 = a_21 10 := (e_245 10 (by decide)).trans rfl
            have t_258 : a_244 11 = a 11 := (e_245 11 (by decide)).trans t_49
            have t_259 : a_244 12 = a 12 := (e_245 12 (by decide)).trans t_50
            have t_260 : a_244 16 = a 16 := (e_245 16 (by decide)).trans t_51
            refine lv_aload_n hx hb dX13_sheet_50 rfl (lv_at hl 1 rfl) ?_
            refine gf_codesWith hx hb hj hown hK hP dX13_sheet_51 ?_
            refine lv_sipush (v := iI 600) hx hb dX13_sheet_54 rfl ?_
            refine lv_aload_n hx hb dX13_sheet_57 rfl (lv_at hl 1 rfl) ?_
            refine gf_sheets hx hb hj hown hK hP hI dX13_sheet_58 (fun h_261 => ?_)
            refine xr_mul hx hb dX13_sheet_61 ?_
            refine lv_iload_n hx hb dX13_sheet_62 rfl (lv_at hl 0 rfl) ?_
            refine xr_add hx hb dX13_sheet_63 ?_
            refine lv_aload_n hx hb dX13_sheet_64 rfl (lv_at hl 1 rfl) ?_
            refine gf_doesWith hx hb hj hown hK hP dX13_sheet_65 ?_
            refine lv_iload_n hx hb dX13_sheet_68 rfl (lv_at hl 0 rfl) ?_
            have c4 := congrFun t_251 (v1_21)
            refine ld_doesWith hx hb hK hP hI (by omega) (by omega) dX13_sheet_69 (fun h_262 => ?_)
            refine sa_codesWith hx hb hK hP hD hS hI (by omega) (by omega) dX13_sheet_70 (fun a_263 z_266 H locs h_267 h_268 e_264 e_265 hI hP hD hS => ?_)
            have haA : ∀ j, j ∉ ([2, 3, 4, 5, 6, 7, 8, 9, 10, 11, 12, 13, 14, 15] : List Nat) → a_263 j = a j := fun j h => (e_264 j (fun q => h (q ▸ (by decide : 10 ∈ ([2, 3, 4, 5, 6, 7, 8, 9, 10, 11, 12, 13, 14, 15] : List Nat))))).trans (haA j h)
            have t_269 : a_263 3 = a_10 3 := (e_264 3 (by decide)).trans t_250
            have t_270 : a_263 4 = a_10 4 := (e_264 4 (by decide)).trans t_251
            have t_271 : a_263 5 = a_10 5 := (e_264 5 (by decide)).trans t_252
            have t_272 : a_263 6 = a_10 6 := (e_264 6 (by decide)).trans t_253
            have t_273 : a_263 7 = a_10 7 := (e_264 7 (by decide)).trans t_254
            have t_274 : a_263 8 = a_10 8 := (e_264 8 (by decide)).trans t_255
            have t_275 : a_263 9 = up (a_21 9) ((600 * (g 18)) + v1_21) (a_21 3 v1_21) := (e_264 9 (by decide)).trans t_256
            have t_276 : a_263 10 = up (a_21 10) ((600 * (g 18)) + v1_21) (a_244 4 v1_21) := e_265.trans (up_c t_257 (by omega) (by omega))
            have t_277 : a_263 11 = a 11 := (e_264 11 (by decide)).trans t_258
            have t_278 : a_263 12 = a 12 := (e_264 12 (by decide)).trans t_259
            have t_279 : a_263 16 = a 16 := (e_264 16 (by decide)).trans t_260
            refine lv_iinc (v := iI (v1_21 + 1)) (lv' := [(1, .int (iI (v1_21 + 1))), (0, .ref (ad 0))]) hx hb dX13_sheet_71 hl (k := 0) rfl (iI_add _ _) (by decide) rfl (fun ls hl => ?_)
            refine lv_goto (tgt := 21) hx hb dX13_sheet_74 (by decide) ?_
            exact ih21 (v1_21 + 1) a_263 H locs ls (by omega) (by omega) (by first | exact cpI_0 t_275 | exact cpI_s (by assumption) t_275 c3 (by omega)) (by first | exact cpI_0 t_276 | exact cpI_s (by assumption) t_276 c4 (by omega)) t_269 t_270 t_271 t_272 t_273 t_274 t_277 t_278 t_279 hI haA (by omega) hP hD hS hl
      exact L21 ((((g_9 12) - 0 : Int)).toNat + 1) 0 a_10 H locs ls (by omega) (by omega) (by first | exact cpI_0 t_20 | exact cpI_s (by assumption) t_20 c3 (by omega)) (by first | exact cpI_0 t_21 | exact cpI_s (by assumption) t_21 c4 (by omega)) rfl rfl rfl rfl rfl rfl t_22 t_23 t_24 hI haA (by omega) hP hD hS hl
    · refine lv_iconst (v := iI (-1)) hx hb dX13_sheet_17 rfl ?_
      rw [← hQ]
      exact W.iret (v := iI (-1)) hx hb hr (fun t ht hW => ⟨⟨iI (-1), (g_9, a_10), rfl, ⟨(-1), rfl, hI, hfA, haA, by omega, by show rSh g_9 a_10; first | exact rSh_t (by omega) (by omega) t_20 t_21 t_22 t_23 t_24 hrSh | exact rSh_new hI0 hI hrSh hF n9 n10 n11 n13 t_20 t_21 t_22 t_23 t_24 (by omega) (by omega)⟩, by rw [ht]; exact hP, va_K.moved hW.alike hK, hD⟩, hS.F ht⟩) hS.2.2 dX13_sheet_18
