set_option maxHeartbeats 2000000 in
set_option maxRecDepth 100000 in
theorem sX13_reads (l : Launch) (dC : Nat → ClassId) (dI : Nat → Nat → Nat) (sz : Nat) (ad : Nat → Nat) (ca : Nat → ClassId) (sK sV : Nat → Nat) (g : Nat → Int) (a : Nat → Int → Int) (hI : mI g a) : Met l yX13_reads (jk yX13_reads cX13_reads 2 (some .int)) ({ frames := 10, cells := 0, slots := 0, locals := 219 }) (va_Pc [.ref (ad 0)] (mP (dC, dI) (mG ad ca g a) (mT ca) sK sV sz)) (va_Qi (fun (r : Int32) (u : (Nat → Int) × (Nat → Int → Int)) => ∃ z : Int, r = iI z ∧ (mI u.1 u.2) ∧ (∀ j, j ∉ ([2, 3, 4, 5, 7, 8, 9, 12, 15] : List Nat) → u.1 j = g j) ∧ (∀ j, j ∉ ([2, 3, 4, 5, 6, 7, 8] : List Nat) → u.2 j = a j) ∧ ((-1) ≤ z ∧ z ≤ 600) ∧ (z ≠ -1 ∨ rF u.1 u.2) ∧ (z ≠ -1 ∨ 0 ≤ u.1 12) ∧ (∀ r, Runs (rTT g a) (g 1) (cf0 (rTT g a) (g 1)) r → r = z)) (fun u t => va_P (dC, dI) vwCl (mG ad ca u.1 u.2) t.heap ∧ va_K (dC, dI) vwCl (mT ca) t ∧ va_D (va_A (mG ad ca g a) sz) (mG ad ca u.1 u.2)) (va_A (mG ad ca g a) sz)) 0 0 (va_A (mG ad ca g a) sz) := by
  refine Met.ofW (cc := cX13_reads) (maxL := 2) (ret := (some .int)) (by decide) rfl ?_
  intro p e s m args below meth c s₁ B hml hv
  obtain ⟨rfl, ⟨hsz, hP, hK, hD0⟩, hX0⟩ := hv
  have hx := B.exec
  have hb := B.bytes
  have hr := B.returns
  have hts := atoms_spec (ws := (jk yX13_reads cX13_reads 2 (some .int))) B.pre
  have hj : ∀ w ∈ jw, w.before ([.ref (ad 0)] : List Value).toArray s = true := fun w h => hts w (jm h)
  have hown : s.vm.findClass RX13 = some m.cls := findClass_of_methodNamed B.named
  subst hsz
  have hD := hD0.self (sz := s.heap.size)
  have hXs := hX0
  generalize hAe : (va_A (mG ad ca g a) s.heap.size) = A at hD hXs ⊢
  have hA : ∀ q : Nat, s.heap.size ≤ q → A q := fun q h => by rw [← hAe]; exact Or.inr h
  have hS : va_S A s.heap s.heap [] := va_S.rf
  have hP : va_P (dC, dI) vwCl (mG ad ca g a) s.heap := hP
  have hfA : ∀ j, j ∉ ([2, 3, 4, 5, 7, 8, 9, 12, 15] : List Nat) → g j = g j := fun _ _ => rfl
  have haA : ∀ j, j ∉ ([2, 3, 4, 5, 6, 7, 8] : List Nat) → a j = a j := fun _ _ => rfl
  have hl := lv_entry ([.ref (ad 0)]) (n := 2) (Nat.le_of_ble_eq_true rfl)
  rw [lg_entry_eq]
  generalize (lg_sl ([.ref (ad 0)]) ++ List.replicate (2 - (lg_sl ([.ref (ad 0)])).length) Slot.unset).toArray = ls at hl ⊢
  have hl : lv_has ls 2 [(0, .ref (ad 0))] := hl
  generalize hQ : MQ below (va_Qi (fun (r : Int32) (u : (Nat → Int) × (Nat → Int → Int)) => ∃ z : Int, r = iI z ∧ (mI u.1 u.2) ∧ (∀ j, j ∉ ([2, 3, 4, 5, 7, 8, 9, 12, 15] : List Nat) → u.1 j = g j) ∧ (∀ j, j ∉ ([2, 3, 4, 5, 6, 7, 8] : List Nat) → u.2 j = a j) ∧ ((-1) ≤ z ∧ z ≤ 600) ∧ (z ≠ -1 ∨ rF u.1 u.2) ∧ (z ≠ -1 ∨ 0 ≤ u.1 12) ∧ (∀ r, Runs (rTT g a) (g 1) (cf0 (rTT g a) (g 1)) r → r = z)) (fun u t => va_P (dC, dI) vwCl (mG ad ca u.1 u.2) t.heap ∧ va_K (dC, dI) vwCl (mT ca) t ∧ va_D A (mG ad ca u.1 u.2)) A) ([.ref (ad 0)] : List Value).toArray s 0 0 A = Q
  suffices ST : ∀ (H : Heap) (locs : List Loc), va_P (dC, dI) vwCl (mG ad ca g a) H → va_S A s.heap H locs → W p l e ({ frames := 10, cells := 0, slots := 0, locals := 219 }) s m ([.ref (ad 0)] : List Value).toArray below meth c H locs 0 0 Q (F0 m 0 ls []) from ST _ _ hP hS
  clear hP hS
  intro H locs hP hS
  have b1_0 : 0 ≤ g 1 ∧ g 1 ≤ 600 := hI.1 1
  have hTx0 : txR (rTT g a) (g 1) g a := txR_0
  refine lv_aload_n hx hb dX13_reads_0 rfl (lv_at hl 0 rfl) ?_
  refine lv_iconst (v := iI 0) hx hb dX13_reads_1 rfl ?_
  refine pf_at hx hb hj hown hK hP hD hS hI (by omega) (by omega) dX13_reads_2 (fun g_1 H locs e_2 e_3 hI hP hD hS => ?_)
  have hfA : ∀ j, j ∉ ([2, 3, 4, 5, 7, 8, 9, 12, 15] : List Nat) → g_1 j = g j := fun j h => (e_2 j (fun q => h (q ▸ (by decide : 2 ∈ ([2, 3, 4, 5, 7, 8, 9, 12, 15] : List Nat))))).trans (hfA j h)
  have b_4 := e_2 3 (by decide)
  have b_5 := e_2 4 (by decide)
  have b_6 := e_2 5 (by decide)
  have b_7 := e_2 7 (by decide)
  have b_8 := e_2 8 (by decide)
  have b_9 := e_2 9 (by decide)
  have b_10 := e_2 12 (by decide)
  have b_11 := e_2 15 (by decide)
  have b_12 : g_1 1 = g 1 := hfA 1 (by decide)
  have b_13 := e_2 1 (by decide)
  have b_14 := e_2 3 (by decide)
  have b_15 := e_2 4 (by decide)
  have b_16 := e_2 7 (by decide)
  have b_17 := e_2 8 (by decide)
  have b_18 := e_2 9 (by decide)
  have b_19 := e_2 12 (by decide)
  have b_20 := e_2 15 (by decide)
  have b_21 := e_2 5 (by decide)
  refine lv_aload_n hx hb dX13_reads_5 rfl (lv_at hl 0 rfl) ?_
  refine lv_iconst (v := iI 0) hx hb dX13_reads_6 rfl ?_
  refine pf_coming hx hb hj hown hK hP hD hS hI (by omega) (by omega) dX13_reads_7 (fun g_22 H locs e_23 e_24 hI hP hD hS => ?_)
  have hfA : ∀ j, j ∉ ([2, 3, 4, 5, 7, 8, 9, 12, 15] : List Nat) → g_22 j = g j := fun j h => (e_23 j (fun q => h (q ▸ (by decide : 7 ∈ ([2, 3, 4, 5, 7, 8, 9, 12, 15] : List Nat))))).trans (hfA j h)
  have b_25 := e_23 2 (by decide)
  have b_26 := e_23 3 (by decide)
  have b_27 := e_23 4 (by decide)
  have b_28 := e_23 5 (by decide)
  have b_29 := e_23 8 (by decide)
  have b_30 := e_23 9 (by decide)
  have b_31 := e_23 12 (by decide)
  have b_32 := e_23 15 (by decide)
  have b_33 : g_22 1 = g 1 := hfA 1 (by decide)
  have b_34 := e_23 1 (by decide)
  have b_35 := e_23 2 (by decide)
  have b_36 := e_23 3 (by decide)
  have b_37 := e_23 4 (by decide)
  have b_38 := e_23 8 (by decide)
  have b_39 := e_23 9 (by decide)
  have b_40 := e_23 12 (by decide)
  have b_41 := e_23 15 (by decide)
  have b_42 := e_23 5 (by decide)
  refine lv_aload_n hx hb dX13_reads_10 rfl (lv_at hl 0 rfl) ?_
  refine lv_iconst (v := iI 0) hx hb dX13_reads_11 rfl ?_
  refine pa_deep hx hb hj hown hK hP hD hS hI dX13_reads_12 (fun g_43 z_46 H locs h_47 h_48 e_44 e_45 hI hP hD hS => ?_)
  have hfA : ∀ j, j ∉ ([2, 3, 4, 5, 7, 8, 9, 12, 15] : List Nat) → g_43 j = g j := fun j h => (e_44 j (fun q => h (q ▸ (by decide : 8 ∈ ([2, 3, 4, 5, 7, 8, 9, 12, 15] : List Nat))))).trans (hfA j h)
  have b_49 := e_44 2 (by decide)
  have b_50 := e_44 3 (by decide)
  have b_51 := e_44 4 (by decide)
  have b_52 := e_44 5 (by decide)
  have b_53 := e_44 7 (by decide)
  have b_54 := e_44 9 (by decide)
  have b_55 := e_44 12 (by decide)
  have b_56 := e_44 15 (by decide)
  have b_57 : g_43 1 = g 1 := hfA 1 (by decide)
  have b_58 := e_44 1 (by decide)
  have b_59 := e_44 2 (by decide)
  have b_60 := e_44 3 (by decide)
  have b_61 := e_44 4 (by decide)
  have b_62 := e_44 7 (by decide)
  have b_63 := e_44 9 (by decide)
  have b_64 := e_44 12 (by decide)
  have b_65 := e_44 15 (by decide)
  have b_66 := e_44 5 (by decide)
  refine lv_aload_n hx hb dX13_reads_15 rfl (lv_at hl 0 rfl) ?_
  refine lv_iconst (v := iI 0) hx hb dX13_reads_16 rfl ?_
  refine pf_doing hx hb hj hown hK hP hD hS hI (by omega) (by omega) dX13_reads_17 (fun g_67 H locs e_68 e_69 hI hP hD hS => ?_)
  have hfA : ∀ j, j ∉ ([2, 3, 4, 5, 7, 8, 9, 12, 15] : List Nat) → g_67 j = g j := fun j h => (e_68 j (fun q => h (q ▸ (by decide : 12 ∈ ([2, 3, 4, 5, 7, 8, 9, 12, 15] : List Nat))))).trans (hfA j h)
  have b_70 := e_68 2 (by decide)
  have b_71 := e_68 3 (by decide)
  have b_72 := e_68 4 (by decide)
  have b_73 := e_68 5 (by decide)
  have b_74 := e_68 7 (by decide)
  have b_75 := e_68 8 (by decide)
  have b_76 := e_68 9 (by decide)
  have b_77 := e_68 15 (by decide)
  have b_78 : g_67 1 = g 1 := hfA 1 (by decide)
  have b_79 := e_68 1 (by decide)
  have b_80 := e_68 2 (by decide)
  have b_81 := e_68 3 (by decide)
  have b_82 := e_68 4 (by decide)
  have b_83 := e_68 7 (by decide)
  have b_84 := e_68 8 (by decide)
  have b_85 := e_68 9 (by decide)
  have b_86 := e_68 15 (by decide)
  have b_87 := e_68 5 (by decide)
  refine lv_aload_n hx hb dX13_reads_20 rfl (lv_at hl 0 rfl) ?_
  refine lv_iconst (v := iI 0) hx hb dX13_reads_21 rfl ?_
  refine pf_skips hx hb hj hown hK hP hD hS hI (by omega) (by omega) dX13_reads_22 (fun g_88 H locs e_89 e_90 hI hP hD hS => ?_)
  have hfA : ∀ j, j ∉ ([2, 3, 4, 5, 7, 8, 9, 12, 15] : List Nat) → g_88 j = g j := fun j h => (e_89 j (fun q => h (q ▸ (by decide : 15 ∈ ([2, 3, 4, 5, 7, 8, 9, 12, 15] : List Nat))))).trans (hfA j h)
  have b_91 := e_89 2 (by decide)
  have b_92 := e_89 3 (by decide)
  have b_93 := e_89 4 (by decide)
  have b_94 := e_89 5 (by decide)
  have b_95 := e_89 7 (by decide)
  have b_96 := e_89 8 (by decide)
  have b_97 := e_89 9 (by decide)
  have b_98 := e_89 12 (by decide)
  have b_99 : g_88 1 = g 1 := hfA 1 (by decide)
  have b_100 := e_89 1 (by decide)
  have b_101 := e_89 2 (by decide)
  have b_102 := e_89 3 (by decide)
  have b_103 := e_89 4 (by decide)
  have b_104 := e_89 7 (by decide)
  have b_105 := e_89 8 (by decide)
  have b_106 := e_89 9 (by decide)
  have b_107 := e_89 12 (by decide)
  have b_108 := e_89 5 (by decide)
  refine lv_iconst (v := iI 0) hx hb dX13_reads_25 rfl ?_
  refine lv_istore_n (lv' := [(1, .int (iI 0)), (0, .ref (ad 0))]) hx hb dX13_reads_26 rfl hl (by decide) rfl (fun ls hl => ?_)
  have L27 : ∀ (n27 : Nat) (v1_27 : Int) (a_27 : Nat → Int → Int) (H : Heap) (locs : List Loc) (ls : Array Slot), (0 ≤ v1_27 ∧ v1_27 ≤ 2147483647) → (0 ≤ v1_27 ∧ v1_27 ≤ 14) → (sl0 (a_27 5) (a_27 6) (v1_27)) → (a_27 2 = a 2) → (mI g_88 a_27) → (∀ j, j ∉ ([2, 3, 4, 5, 6, 7, 8] : List Nat) → a_27 j = a j) → (0 < (n27 : Int) ∧ 14 - v1_27 < (n27 : Int)) → va_P (dC, dI) vwCl (mG ad ca g_88 a_27) H → va_D A (mG ad ca g_88 a_27) → va_S A s.heap H locs → lv_has ls 2 [(1, .int (iI v1_27)), (0, .ref (ad 0))] → W p l e ({ frames := 10, cells := 0, slots := 0, locals := 219 }) s m ([.ref (ad 0)] : List Value).toArray below meth c H locs 0 0 Q (F0 m 27 ls []) := by
    intro n27
    induction n27 with
    | zero =>
      intro v1_27 a_27 H locs ls h_109 h_110 h_111 t_112 hI haA hm27 hP hD hS hl
      exfalso; omega
    | succ n27 ih27 =>
      intro v1_27 a_27 H locs ls h_113 h_114 h_115 t_116 hI haA hm27 hP hD hS hl
      refine lv_iload_n hx hb dX13_reads_27 rfl (lv_at hl 0 rfl) ?_
      refine lv_bipush (v := iI 14) hx hb dX13_reads_28 rfl ?_
      refine xr_icmp_ge (tgt := 53) hx hb dX13_reads_30 (by decide) (by omega) (by omega) (fun h_117 => ?_) (fun h_117 => ?_)
      · have hs0 := (show sl0 _ _ v1_27 by assumption)
        rw [show v1_27 = 14 by omega] at hs0
        refine lv_aload_n hx hb dX13_reads_53 rfl (lv_at hl 1 rfl) ?_
        refine jcg_v (va_runV (As := []) (rest := []) ⟨hx, hb, hml, hown, hts⟩ (sX13_next l dC dI _ ad ca sK sV g_88 a_27 (rTT g a) (g 1)  hI (by omega) (txR_t (hfA 1 (by decide)) (haA 1 (by decide)) hTx0)) (cwV 0 hts (jgoodV m_224 m_433 m_434 m_503 m_184) rfl rfl rfl (by decide +kernel) ⟨(Nat.le_of_ble_eq_true rfl), (Nat.le_of_ble_eq_true rfl)⟩) ⟨mP_blind, va_recv hK hP (ci := 13) (q0 := 0) rfl rfl, fun U hU hW => ⟨rfl, mP_of hU hW hP hK hD hXs hS (fun _ h => h) hA⟩⟩ rfl rfl hl.1 rfl (lv_room (Nat.le_of_ble_eq_true rfl)) dX13_reads_54 ⟨(Nat.le_of_ble_eq_true rfl), (Nat.le_of_ble_eq_true rfl)⟩) hD hS hA (fun u_129 H locs w_119 hP hK hD hS => ?_)
        obtain ⟨g_127, a_128⟩ := u_129
        obtain ⟨hI, hfr_130, hfr_131, h_121, h_122, h_123, h_124, h_125, h_126⟩ := w_119
        have hP : va_P (dC, dI) vwCl (mG ad ca g_127 a_128) H := hP
        have hD : va_D A (mG ad ca g_127 a_128) := hD
        have hfA : ∀ j, j ∉ ([2, 3, 4, 5, 7, 8, 9, 12, 15] : List Nat) → g_127 j = g j := fun j h => (hfr_130 j (fun q => h (by first | exact q | (simp only [List.mem_cons, List.not_mem_nil, or_false] at q ⊢ <;> omega)))).trans (hfA j h)
        have b_133 : g_127 1 = g 1 := hfA 1 (by decide)
        have b_134 := hfr_130 7 (by decide)
        have b_135 := hfr_130 8 (by decide)
        have b_136 := hfr_130 9 (by decide)
        have b_137 := hfr_130 12 (by decide)
        have b_138 := hfr_130 15 (by decide)
        have haA : ∀ j, j ∉ ([2, 3, 4, 5, 6, 7, 8] : List Nat) → a_128 j = a j := fun j h => (hfr_131 j (fun q => h (by first | exact q | (simp only [List.mem_cons, List.not_mem_nil, or_false] at q ⊢ <;> omega)))).trans (haA j h)
        have h_121 : g_88 2 ≤ g_127 2 := h_121
        have h_122 : g_127 2 ≤ g_88 1 := h_122
        have h_123 : g_127 3 = 0 ∨ g_88 2 + 1 ≤ g_127 2 := h_123
        have h_124 : g_127 4 ≤ g_127 2 := h_124
        have h_125 : g_127 4 = scn (bB (rTT g a)) (g 1) (g_88 2) := h_125
        have h_126 : tkR (rTT g a) (g 1) g_127 a_128 := h_126
        have b_139 : g_127 1 = g_88 1 := hfr_130 1 (by decide)
        have b_140 : g_127 7 = g_88 7 := hfr_130 7 (by decide)
        have b_141 : g_127 8 = g_88 8 := hfr_130 8 (by decide)
        have b_142 : g_127 9 = g_88 9 := hfr_130 9 (by decide)
        have b_143 : g_127 12 = g_88 12 := hfr_130 12 (by decide)
        have b_144 : g_127 15 = g_88 15 := hfr_130 15 (by decide)
        have t_145 : a_128 2 = a 2 := (hfr_131 2 (by decide)).trans t_116
        have t_146 : a_128 5 = a_27 5 := (hfr_131 5 (by decide)).trans rfl
        have t_147 : a_128 6 = a_27 6 := (hfr_131 6 (by decide)).trans rfl
        have b_148 : 0 ≤ g_127 1 ∧ g_127 1 ≤ 600 := hI.1 1
        have b_149 : 0 ≤ g_127 2 ∧ g_127 2 ≤ 600 := hI.1 2
        have e9 : g_127 4 = scn (bB (rTT g a)) (g 1) 0 := (h_125).trans (by rw [show g_88 2 = 0 by omega])
        refine lv_aload_n hx hb dX13_reads_57 rfl (lv_at hl 1 rfl) ?_
        refine lv_iconst (v := iI 0) hx hb dX13_reads_58 rfl ?_
        refine jcg_v (va_runV (As := [.int (iI 0)]) (rest := []) ⟨hx, hb, hml, hown, hts⟩ (sX13_push l dC dI _ ad ca g_127 a_128 0 hI (by omega) (by omega)) (cwV 1 hts (jgoodV m_225 m_452 m_453 m_503 m_194) rfl rfl rfl (by decide +kernel) ⟨(Nat.le_of_ble_eq_true rfl), (Nat.le_of_ble_eq_true rfl)⟩) ⟨jw_blind, va_recv hK hP (ci := 13) (q0 := 0) rfl rfl, fun U hU hW => ⟨rfl, jw_of hU hW hP hK hD⟩⟩ rfl rfl hl.1 rfl (lv_room (Nat.le_of_ble_eq_true rfl)) dX13_reads_59 ⟨(Nat.le_of_ble_eq_true rfl), (Nat.le_of_ble_eq_true rfl)⟩) hD hS hA (fun u_157 H locs w_151 hP hK hD hS => ?_)
        obtain ⟨g_155, a_156⟩ := u_157
        obtain ⟨hI, hfr_158, hfr_159, h_153, h_154⟩ := w_151
        have hP : va_P (dC, dI) vwCl (mG ad ca g_155 a_156) H := hP
        have hD : va_D A (mG ad ca g_155 a_156) := hD
        have hfA : ∀ j, j ∉ ([2, 3, 4, 5, 7, 8, 9, 12, 15] : List Nat) → g_155 j = g j := fun j h => (hfr_158 j (fun q => h (by first | exact q | (simp only [List.mem_cons, List.not_mem_nil, or_false] at q ⊢ <;> omega)))).trans (hfA j h)
        have b_161 : g_155 1 = g 1 := hfA 1 (by decide)
        have b_162 := hfr_158 2 (by decide)
        have b_163 := hfr_158 3 (by decide)
        have b_164 := hfr_158 4 (by decide)
        have b_165 := hfr_158 5 (by decide)
        have b_166 := hfr_158 8 (by decide)
        have b_167 := hfr_158 9 (by decide)
        have b_168 := hfr_158 12 (by decide)
        have b_169 := hfr_158 15 (by decide)
        have haA : ∀ j, j ∉ ([2, 3, 4, 5, 6, 7, 8] : List Nat) → a_156 j = a j := fun j h => (hfr_159 j (fun q => h (by first | exact q | (simp only [List.mem_cons, List.not_mem_nil, or_false] at q ⊢ <;> omega)))).trans (haA j h)
        have h_153 : g_155 7 = g_127 7 + 1 := h_153
        have h_154 : a_156 2 = up (a_128 2) (g_127 7) 0 := h_154
        have b_170 : g_155 1 = g_127 1 := hfr_158 1 (by decide)
        have b_171 : g_155 2 = g_127 2 := hfr_158 2 (by decide)
        have b_172 : g_155 3 = g_127 3 := hfr_158 3 (by decide)
        have b_173 : g_155 4 = g_127 4 := hfr_158 4 (by decide)
        have b_174 : g_155 8 = g_127 8 := hfr_158 8 (by decide)
        have b_175 : g_155 9 = g_127 9 := hfr_158 9 (by decide)
        have b_176 : g_155 12 = g_127 12 := hfr_158 12 (by decide)
        have b_177 : g_155 15 = g_127 15 := hfr_158 15 (by decide)
        have b_178 : g_155 5 = g_127 5 := hfr_158 5 (by decide)
        have t_179 : a_156 2 = up (a 2) ((0)) 0 := h_154.trans (up_c t_145 (by omega) (by omega))
        have t_180 : a_156 5 = a_27 5 := (hfr_159 5 (by decide)).trans t_146
        have t_181 : a_156 6 = a_27 6 := (hfr_159 6 (by decide)).trans t_147
        have b_182 : 0 ≤ g_155 7 ∧ g_155 7 ≤ 1200 := hI.1 7
        have L62 : ∀ (n62 : Nat) (g_62 : Nat → Int) (a_62 : Nat → Int → Int) (H : Heap) (locs : List Loc) (ls : Array Slot), (rPn g_62 a_62 (g_62 7)) → (rIn (rTT g a) (g 1) g_62 a_62) → (tkR (rTT g a) (g 1) g_62 a_62) → (g_62 1 = g 1) → (mI g_62 a_62) → (∀ j, j ∉ ([2, 3, 4, 5, 7, 8, 9, 12, 15] : List Nat) → g_62 j = g j) → (∀ j, j ∉ ([2, 3, 4, 5, 6, 7, 8] : List Nat) → a_62 j = a j) → (0 < (n62 : Int) ∧ mz g_62 a_62 (g_62 7) < (n62 : Int)) → va_P (dC, dI) vwCl (mG ad ca g_62 a_62) H → va_D A (mG ad ca g_62 a_62) → va_S A s.heap H locs → lv_has ls 2 [(1, .int (iI v1_27)), (0, .ref (ad 0))] → W p l e ({ frames := 10, cells := 0, slots := 0, locals := 219 }) s m ([.ref (ad 0)] : List Value).toArray below meth c H locs 0 0 Q (F0 m 62 ls []) := by
          intro n62
          induction n62 with
          | zero =>
            intro g_62 a_62 H locs ls h_183 h_184 h_185 h_186 hI hfA haA hm62 hP hD hS hl
            have b_187 : g_62 1 = g 1 := hfA 1 (by decide)
            exfalso; omega
          | succ n62 ih62 =>
            intro g_62 a_62 H locs ls h_188 h_189 h_190 h_191 hI hfA haA hm62 hP hD hS hl
            have b_192 : g_62 1 = g 1 := hfA 1 (by decide)
            refine lv_aload_n hx hb dX13_reads_62 rfl (lv_at hl 1 rfl) ?_
            refine gf_coming hx hb hj hown hK hP hI dX13_reads_63 (fun h_193 => ?_)
            refine xr_if_le (tgt := 100) hx hb dX13_reads_66 (by decide) (by omega) (fun h_194 => ?_) (fun h_194 => ?_)
            · refine lv_iconst (v := iI (-1)) hx hb dX13_reads_100 rfl ?_
              rw [← hQ]
              exact W.iret (v := iI (-1)) hx hb hr (fun t ht hW => ⟨⟨iI (-1), (g_62, a_62), rfl, ⟨(-1), rfl, hI, hfA, haA, by omega, by show (-1) ≠ -1 ∨ rF g_62 a_62; first | exact Or.inr (rF_of (show rPn g_62 a_62 (g_62 7) by assumption)) | exact Or.inl (by omega), by show (-1) ≠ -1 ∨ 0 ≤ g_62 12; first | exact Or.inl (by omega) | (obtain ⟨b9, d9, P9, W9, c9, h89, hat9, h29, hcd9, -, -⟩ := (show rPn g_62 a_62 (g_62 7) by assumption); exact Or.inr (Int.le_trans hcd9.1 hcd9.2.1)), by show ∀ r, Runs (rTT g a) (g 1) (cf0 (rTT g a) (g 1)) r → r = (-1); first | exact rIn_e (show rIn (rTT g a) (g 1) g_62 a_62 by assumption) (by omega) | exact (rIn_p (show rIn (rTT g a) (g 1) g_62 a_62 by assumption) (by omega) (by omega) (by omega) (by omega) (by omega) _).2 (by omega)⟩, by rw [ht]; exact hP, va_K.moved hW.alike hK, hD⟩, hS.F ht⟩) hS.2.2 dX13_reads_101
            · refine lv_aload_n hx hb dX13_reads_69 rfl (lv_at hl 1 rfl) ?_
              refine lv_dup hx hb dX13_reads_70 rfl ?_
              refine gf_coming hx hb hj hown hK hP hI dX13_reads_71 (fun h_195 => ?_)
              refine lv_iconst (v := iI 1) hx hb dX13_reads_74 rfl ?_
              refine xr_sub hx hb dX13_reads_75 ?_
              refine pf_coming hx hb hj hown hK hP hD hS hI (by omega) (by omega) dX13_reads_76 (fun g_196 H locs e_197 e_198 hI hP hD hS => ?_)
              have hfA : ∀ j, j ∉ ([2, 3, 4, 5, 7, 8, 9, 12, 15] : List Nat) → g_196 j = g j := fun j h => (e_197 j (fun q => h (q ▸ (by decide : 7 ∈ ([2, 3, 4, 5, 7, 8, 9, 12, 15] : List Nat))))).trans (hfA j h)
              have b_199 := e_197 2 (by decide)
              have b_200 := e_197 3 (by decide)
              have b_201 := e_197 4 (by decide)
              have b_202 := e_197 5 (by decide)
              have b_203 := e_197 8 (by decide)
              have b_204 := e_197 9 (by decide)
              have b_205 := e_197 12 (by decide)
              have b_206 := e_197 15 (by decide)
              have b_207 : g_196 1 = g 1 := hfA 1 (by decide)
              have b_208 := e_197 1 (by decide)
              have b_209 := e_197 2 (by decide)
              have b_210 := e_197 3 (by decide)
              have b_211 := e_197 4 (by decide)
              have b_212 := e_197 8 (by decide)
              have b_213 := e_197 9 (by decide)
              have b_214 := e_197 12 (by decide)
              have b_215 := e_197 15 (by decide)
              have b_216 := e_197 5 (by decide)
              obtain ⟨hrP1c, hmz⟩ := rP1_of (g := g_62) (g' := g_196) (show rPn g_62 a_62 (g_62 7) by assumption) (by omega) (by omega) (by omega) (by omega) (by omega) (by omega) (by omega) (by omega)
              have hTkc : tkR (rTT g a) (g 1) g_196 a_62 := tkR_t (by omega) (by omega) (by omega) (by omega) (show tkR (rTT g a) (g 1) g_62 a_62 by assumption)
              refine lv_aload_n hx hb dX13_reads_79 rfl (lv_at hl 1 rfl) ?_
              refine lv_aload_n hx hb dX13_reads_80 rfl (lv_at hl 1 rfl) ?_
              refine gf_toCome hx hb hj hown hK hP dX13_reads_81 ?_
              refine lv_aload_n hx hb dX13_reads_84 rfl (lv_at hl 1 rfl) ?_
              refine gf_coming hx hb hj hown hK hP hI dX13_reads_85 (fun h_217 => ?_)
              refine ld_toCome hx hb hK hP hI (by omega) (by omega) dX13_reads_88 (fun h_218 => ?_)
              refine jcg_i (va_runV (As := [.int (iI (a_62 2 (g_196 7)))]) (rest := []) ⟨hx, hb, hml, hown, hts⟩ (sX13_steps l dC dI _ ad ca sK sV g_196 a_62 (rTT g a) (g 1) (a_62 2 (g_196 7)) hI (by omega) (by omega) hrP1c (txR_t (hfA 1 (by decide)) (haA 1 (by decide)) hTx0) hTkc) (cwV 1 hts (jgoodV m_241 m_472 m_473 m_503 m_204) rfl rfl rfl (by decide +kernel) ⟨(Nat.le_of_ble_eq_true rfl), (Nat.le_of_ble_eq_true rfl)⟩) ⟨mP_blind, va_recv hK hP (ci := 13) (q0 := 0) rfl rfl, fun U hU hW => ⟨rfl, mP_of hU hW hP hK hD hXs hS (fun _ h => h) hA⟩⟩ rfl rfl hl.1 rfl (lv_room (Nat.le_of_ble_eq_true rfl)) dX13_reads_89 ⟨(Nat.le_of_ble_eq_true rfl), (Nat.le_of_ble_eq_true rfl)⟩) hD hS hA (fun r_219 u_228 H locs w_220 hP hK hD hS => ?_)
              obtain ⟨g_226, a_227⟩ := u_228
              obtain ⟨z_221, rfl, hI, hfr_229, hfr_230, h_222, h_223, h_224, h_225⟩ := w_220
              have hP : va_P (dC, dI) vwCl (mG ad ca g_226 a_227) H := hP
              have hD : va_D A (mG ad ca g_226 a_227) := hD
              have hfA : ∀ j, j ∉ ([2, 3, 4, 5, 7, 8, 9, 12, 15] : List Nat) → g_226 j = g j := fun j h => (hfr_229 j (fun q => h (by first | exact q | (simp only [List.mem_cons, List.not_mem_nil, or_false] at q ⊢ <;> omega)))).trans (hfA j h)
              have b_232 : g_226 1 = g 1 := hfA 1 (by decide)
              have haA : ∀ j, j ∉ ([2, 3, 4, 5, 6, 7, 8] : List Nat) → a_227 j = a j := fun j h => (hfr_230 j (fun q => h (by first | exact q | (simp only [List.mem_cons, List.not_mem_nil, or_false] at q ⊢ <;> omega)))).trans (haA j h)
              have h_223 : z_221 = 0 ∨ (rPn g_226 a_227 (g_226 7) ∧ mz g_226 a_227 (g_226 7) < mz g_196 a_62 (g_196 7 + 1)) := h_223
              have h_224 : tkR (rTT g a) (g 1) g_226 a_227 := h_224
              have h_225 : nst (rTT g a) (g 1) g_196 a_62 g_226 a_227 z_221 := h_225
              have b_233 : g_226 1 = g_196 1 := hfr_229 1 (by decide)
              have b_234 : 0 ≤ g_226 7 ∧ g_226 7 ≤ 1200 := hI.1 7
              have hn1 := (h_223).imp id (fun q => mz_nn q.1)
              have hn2 := (h_223).imp id (fun q => q.2)
              refine xr_if_ne (tgt := 62) hx hb dX13_reads_92 (by decide) (by omega) (fun h_235 => ?_) (fun h_235 => ?_)
              · exact ih62 g_226 a_227 H locs ls (by first | exact ((h_223).resolve_left (by omega)).1 | exact rPn_0 hs0 rfl rfl (by omega) (by omega) (by omega) (by omega) rfl (by have := tkk_b (g_226 3); rcases (show g_226 3 = 0 ∨ 1 ≤ g_226 2 by omega) with q | q; rw [q, tkk_z]; omega; omega) (by omega)) (by first | exact rIn_0 (by omega) (by omega) (by omega) (by omega) rfl hs0 rfl | exact (rIn_p (show rIn (rTT g a) (g 1) g_62 a_62 by assumption) (by omega) (by omega) (by omega) (by omega) (by omega) h_225).1 (by omega)) (by first | exact h_224 | exact tkR_t (by omega) (by omega) (by omega) (by omega) h_126) (by omega) hI hfA haA (by omega) hP hD hS hl
              · refine lv_aload_n hx hb dX13_reads_95 rfl (lv_at hl 1 rfl) ?_
                refine gf_tokenAt hx hb hj hown hK hP hI dX13_reads_96 (fun h_236 => ?_)
                rw [← hQ]
                exact W.iret (v := iI (g_226 4)) hx hb hr (fun t ht hW => ⟨⟨iI (g_226 4), (g_226, a_227), rfl, ⟨g_226 4, rfl, hI, hfA, haA, by omega, by show (g_226 4) ≠ -1 ∨ rF g_226 a_227; first | exact Or.inr (rF_of (show rPn g_226 a_227 (g_226 7) by assumption)) | exact Or.inl (by omega), by show (g_226 4) ≠ -1 ∨ 0 ≤ g_226 12; first | exact Or.inl (by omega) | (obtain ⟨b9, d9, P9, W9, c9, h89, hat9, h29, hcd9, -, -⟩ := (show rPn g_226 a_227 (g_226 7) by assumption); exact Or.inr (Int.le_trans hcd9.1 hcd9.2.1)), by show ∀ r, Runs (rTT g a) (g 1) (cf0 (rTT g a) (g 1)) r → r = (g_226 4); first | exact rIn_e (show rIn (rTT g a) (g 1) g_226 a_227 by assumption) (by omega) | exact (rIn_p (show rIn (rTT g a) (g 1) g_62 a_62 by assumption) (by omega) (by omega) (by omega) (by omega) (by omega) h_225).2 (by omega)⟩, by rw [ht]; exact hP, va_K.moved hW.alike hK, hD⟩, hS.F ht⟩) hS.2.2 dX13_reads_99
        exact L62 (((mz g_155 a_156 (g_155 7) : Int)).toNat + 1) g_155 a_156 H locs ls (by first | exact ((h_154).resolve_left (by omega)).1 | exact rPn_0 hs0 t_180 t_181 (by omega) (by omega) (by omega) (by omega) t_179 (by have := tkk_b (g_155 3); rcases (show g_155 3 = 0 ∨ 1 ≤ g_155 2 by omega) with q | q; rw [q, tkk_z]; omega; omega) (by omega)) (by first | exact rIn_0 (by omega) (by omega) (by omega) (by omega) t_179 hs0 t_180 | exact (rIn_p (show rIn (rTT g a) (g 1) _ _ by assumption) (by omega) (by omega) (by omega) (by omega) (by omega) _).1 (by omega)) (by first | exact _ | exact tkR_t (by omega) (by omega) (by omega) (by omega) h_126) (by omega) hI hfA haA (by omega) hP hD hS hl
      · refine lv_aload_n hx hb dX13_reads_33 rfl (lv_at hl 1 rfl) ?_
        refine gf_slotBegin hx hb hj hown hK hP dX13_reads_34 ?_
        refine lv_iload_n hx hb dX13_reads_37 rfl (lv_at hl 0 rfl) ?_
        refine lv_iconst (v := iI (-1)) hx hb dX13_reads_38 rfl ?_
        refine st_slotBegin hx hb hK hP hD hS hI (by omega) (by omega) (by omega) (by omega) dX13_reads_39 (fun a_237 H locs e_238 e_239 hI hP hD hS => ?_)
        have haA : ∀ j, j ∉ ([2, 3, 4, 5, 6, 7, 8] : List Nat) → a_237 j = a j := fun j h => (e_238 j (fun q => h (q ▸ (by decide : 5 ∈ ([2, 3, 4, 5, 6, 7, 8] : List Nat))))).trans (haA j h)
        have t_240 : a_237 2 = a 2 := (e_238 2 (by decide)).trans t_116
        have t_241 : a_237 5 = up (a_27 5) v1_27 (-1) := e_239.trans (up_c rfl (by omega) (by omega))
        have t_242 : a_237 6 = a_27 6 := (e_238 6 (by decide)).trans rfl
        refine lv_aload_n hx hb dX13_reads_40 rfl (lv_at hl 1 rfl) ?_
        refine gf_slotEnd hx hb hj hown hK hP dX13_reads_41 ?_
        refine lv_iload_n hx hb dX13_reads_44 rfl (lv_at hl 0 rfl) ?_
        refine lv_iconst (v := iI (-1)) hx hb dX13_reads_45 rfl ?_
        refine st_slotEnd hx hb hK hP hD hS hI (by omega) (by omega) (by omega) (by omega) dX13_reads_46 (fun a_243 H locs e_244 e_245 hI hP hD hS => ?_)
        have haA : ∀ j, j ∉ ([2, 3, 4, 5, 6, 7, 8] : List Nat) → a_243 j = a j := fun j h => (e_244 j (fun q => h (q ▸ (by decide : 6 ∈ ([2, 3, 4, 5, 6, 7, 8] : List Nat))))).trans (haA j h)
        have t_246 : a_243 2 = a 2 := (e_244 2 (by decide)).trans t_240
        have t_247 : a_243 5 = up (a_27 5) v1_27 (-1) := (e_244 5 (by decide)).trans t_241
        have t_248 : a_243 6 = up (a_27 6) v1_27 (-1) := e_245.trans (up_c t_242 (by omega) (by omega))
        refine lv_iinc (v := iI (v1_27 + 1)) (lv' := [(1, .int (iI (v1_27 + 1))), (0, .ref (ad 0))]) hx hb dX13_reads_47 hl (k := 0) rfl (iI_add _ _) (by decide) rfl (fun ls hl => ?_)
        refine lv_goto (tgt := 27) hx hb dX13_reads_50 (by decide) ?_
        exact ih27 (v1_27 + 1) a_243 H locs ls (by omega) (by omega) (by first | exact sl0_0 | exact sl0_s (by assumption) t_247 t_248) t_246 hI haA (by omega) hP hD hS hl
  exact L27 (((14 - 0 : Int)).toNat + 1) 0 a H locs ls (by omega) (by omega) (by first | exact sl0_0 | exact sl0_s (by assumption) rfl rfl) rfl hI haA (by omega) hP hD hS hl
set_option maxHeartbeats 2000000 in
set_option maxRecDepth 100000 in
theorem sX13_fault (l : Launch) (dC : Nat → ClassId) (dI : Nat → Nat → Nat) (sz : Nat) (ad : Nat → Nat) (ca : Nat → ClassId) (sK sV : Nat → Nat) (g : Nat → Int) (a : Nat → Int → Int) (hI : mI g a) : Met l yX13_fault (jk yX13_fault cX13_fault 1 (some .int)) ({ frames := 11, cells := 0, slots := 0, locals := 240 }) (va_Pc [.ref (ad 0)] (mP (dC, dI) (mG ad ca g a) (mT ca) sK sV sz)) (va_Qi (fun (r : Int32) (u : (Nat → Int) × (Nat → Int → Int)) => ∃ z : Int, r = iI z ∧ (mI u.1 u.2) ∧ (∀ j, j ∉ ([2, 3, 4, 5, 7, 8, 9, 12, 15] : List Nat) → u.1 j = g j) ∧ (∀ j, j ∉ ([2, 3, 4, 5, 6, 7, 8] : List Nat) → u.2 j = a j) ∧ (rg z) ∧ (∀ r, Runs (rTT g a) (g 1) (cf0 (rTT g a) (g 1)) r → r = z)) (fun u t => va_P (dC, dI) vwCl (mG ad ca u.1 u.2) t.heap ∧ va_K (dC, dI) vwCl (mT ca) t ∧ va_D (va_A (mG ad ca g a) sz) (mG ad ca u.1 u.2)) (va_A (mG ad ca g a) sz)) 0 0 (va_A (mG ad ca g a) sz) := by
  refine Met.ofW (cc := cX13_fault) (maxL := 1) (ret := (some .int)) (by decide) rfl ?_
  intro p e s m args below meth c s₁ B hml hv
  obtain ⟨rfl, ⟨hsz, hP, hK, hD0⟩, hX0⟩ := hv
  have hx := B.exec
  have hb := B.bytes
  have hr := B.returns
  have hts := atoms_spec (ws := (jk yX13_fault cX13_fault 1 (some .int))) B.pre
  have hj : ∀ w ∈ jw, w.before ([.ref (ad 0)] : List Value).toArray s = true := fun w h => hts w (jm h)
  have hown : s.vm.findClass RX13 = some m.cls := findClass_of_methodNamed B.named
  subst hsz
  have hD := hD0.self (sz := s.heap.size)
  have hXs := hX0
  generalize hAe : (va_A (mG ad ca g a) s.heap.size) = A at hD hXs ⊢
  have hA : ∀ q : Nat, s.heap.size ≤ q → A q := fun q h => by rw [← hAe]; exact Or.inr h
  have hS : va_S A s.heap s.heap [] := va_S.rf
  have hP : va_P (dC, dI) vwCl (mG ad ca g a) s.heap := hP
  have hfA : ∀ j, j ∉ ([2, 3, 4, 5, 7, 8, 9, 12, 15] : List Nat) → g j = g j := fun _ _ => rfl
  have haA : ∀ j, j ∉ ([2, 3, 4, 5, 6, 7, 8] : List Nat) → a j = a j := fun _ _ => rfl
  have hl := lv_entry ([.ref (ad 0)]) (n := 1) (Nat.le_of_ble_eq_true rfl)
  rw [lg_entry_eq]
  generalize (lg_sl ([.ref (ad 0)]) ++ List.replicate (1 - (lg_sl ([.ref (ad 0)])).length) Slot.unset).toArray = ls at hl ⊢
  have hl : lv_has ls 1 [(0, .ref (ad 0))] := hl
  generalize hQ : MQ below (va_Qi (fun (r : Int32) (u : (Nat → Int) × (Nat → Int → Int)) => ∃ z : Int, r = iI z ∧ (mI u.1 u.2) ∧ (∀ j, j ∉ ([2, 3, 4, 5, 7, 8, 9, 12, 15] : List Nat) → u.1 j = g j) ∧ (∀ j, j ∉ ([2, 3, 4, 5, 6, 7, 8] : List Nat) → u.2 j = a j) ∧ (rg z) ∧ (∀ r, Runs (rTT g a) (g 1) (cf0 (rTT g a) (g 1)) r → r = z)) (fun u t => va_P (dC, dI) vwCl (mG ad ca u.1 u.2) t.heap ∧ va_K (dC, dI) vwCl (mT ca) t ∧ va_D A (mG ad ca u.1 u.2)) A) ([.ref (ad 0)] : List Value).toArray s 0 0 A = Q
  suffices ST : ∀ (H : Heap) (locs : List Loc), va_P (dC, dI) vwCl (mG ad ca g a) H → va_S A s.heap H locs → W p l e ({ frames := 11, cells := 0, slots := 0, locals := 240 }) s m ([.ref (ad 0)] : List Value).toArray below meth c H locs 0 0 Q (F0 m 0 ls []) from ST _ _ hP hS
  clear hP hS
  intro H locs hP hS
  refine lv_aload_n hx hb dX13_fault_0 rfl (lv_at hl 0 rfl) ?_
  refine jcg_i (va_runV (As := []) (rest := []) ⟨hx, hb, hml, hown, hts⟩ (sX13_reads l dC dI _ ad ca sK sV g a  hI ) (cwV 0 hts (jgoodV m_242 m_454 m_455 m_503 m_195) rfl rfl rfl (by decide +kernel) ⟨(Nat.le_of_ble_eq_true rfl), (Nat.le_of_ble_eq_true rfl)⟩) ⟨mP_blind, va_recv hK hP (ci := 13) (q0 := 0) rfl rfl, fun U hU hW => ⟨rfl, mP_of hU hW hP hK hD hXs hS (fun _ h => h) hA⟩⟩ rfl rfl hl.1 rfl (lv_room (Nat.le_of_ble_eq_true rfl)) dX13_fault_1 ⟨(Nat.le_of_ble_eq_true rfl), (Nat.le_of_ble_eq_true rfl)⟩) hD hS hA (fun r_1 u_10 H locs w_2 hP hK hD hS => ?_)
  obtain ⟨g_8, a_9⟩ := u_10
  obtain ⟨z_3, rfl, hI, hfr_11, hfr_12, h_4, h_5, h_6, h_7⟩ := w_2
  have hP : va_P (dC, dI) vwCl (mG ad ca g_8 a_9) H := hP
  have hD : va_D A (mG ad ca g_8 a_9) := hD
  have hfA : ∀ j, j ∉ ([2, 3, 4, 5, 7, 8, 9, 12, 15] : List Nat) → g_8 j = g j := fun j h => (hfr_11 j (fun q => h (by first | exact q | (simp only [List.mem_cons, List.not_mem_nil, or_false] at q ⊢ <;> omega)))).trans (hfA j h)
  have haA : ∀ j, j ∉ ([2, 3, 4, 5, 6, 7, 8] : List Nat) → a_9 j = a j := fun j h => (hfr_12 j (fun q => h (by first | exact q | (simp only [List.mem_cons, List.not_mem_nil, or_false] at q ⊢ <;> omega)))).trans (haA j h)
  have h_5 : z_3 ≠ -1 ∨ rF g_8 a_9 := h_5
  have h_6 : z_3 ≠ -1 ∨ 0 ≤ g_8 12 := h_6
  have b_14 : 0 ≤ g_8 1 ∧ g_8 1 ≤ 600 := hI.1 1
  rw [← hQ]
  exact W.iret (v := iI z_3) hx hb hr (fun t ht hW => ⟨⟨iI z_3, (g_8, a_9), rfl, ⟨z_3, rfl, hI, hfA, haA, by omega, by show ∀ r, Runs (rTT g a) (g 1) (cf0 (rTT g a) (g 1)) r → r = z_3; assumption⟩, by rw [ht]; exact hP, va_K.moved hW.alike hK, hD⟩, hS.F ht⟩) hS.2.2 dX13_fault_4
set_option maxHeartbeats 2000000 in
set_option maxRecDepth 100000 in
theorem sX13_sheet (l : Launch) (dC : Nat → ClassId) (dI : Nat → Nat → Nat) (sz : Nat) (ad : Nat → Nat) (ca : Nat → ClassId) (sK sV : Nat → Nat) (g : Nat → Int) (a : Nat → Int → Int) (hI : mI g a) (hrSh : rSh g a) : Met l yX13_sheet (jk yX13_sheet cX13_sheet 4 (some .int)) ({ frames := 11, cells := 0, slots := 0, locals := 240 }) (va_Pc [.ref (ad 0)] (mP (dC, dI) (mG ad ca g a) (mT ca) sK sV sz)) (va_Qi (fun (r : Int32) (u : (Nat → Int) × (Nat → Int → Int)) => ∃ z : Int, r = iI z ∧ (mI u.1 u.2) ∧ (∀ j, j ∉ ([1, 2, 3, 4, 5, 7, 8, 9, 12, 15, 18] : List Nat) → u.1 j = g j) ∧ (∀ j, j ∉ ([2, 3, 4, 5, 6, 7, 8, 9, 10, 11, 12, 13, 14, 15] : List Nat) → u.2 j = a j) ∧ (rg z) ∧ (rSh u.1 u.2) ∧ ((z = -1 ∧ u.1 18 = g 18 ∧ u.1 1 = g 1) ∨ (0 ≤ z ∧ u.1 18 = g 18 + 1 ∧ u.1 1 = 0)) ∧ (shM g a z)) (fun u t => va_P (dC, dI) vwCl (mG ad ca u.1 u.2) t.heap ∧ va_K (dC, dI) vwCl (mT ca) t ∧ va_D (va_A (mG ad ca g a) sz) (mG ad ca u.1 u.2)) (va_A (mG ad ca g a) sz)) 0 0 (va_A (mG ad ca g a) sz) := by
  refine Met.ofW (cc := cX13_sheet) (maxL := 4) (ret := (some .int)) (by decide) rfl ?_
  intro p e s m args below meth c s₁ B hml hv
  obtain ⟨rfl, ⟨hsz, hP, hK, hD0⟩, hX0⟩ := hv
  have hx := B.exec
  have hb := B.bytes
  have hr := B.returns
  have hts := atoms_spec (ws := (jk yX13_sheet cX13_sheet 4 (some .int))) B.pre
  have hj : ∀ w ∈ jw, w.before ([.ref (ad 0)] : List Value).toArray s = true := fun w h => hts w (jm h)
  have hown : s.vm.findClass RX13 = some m.cls := findClass_of_methodNamed B.named
  subst hsz
  have hD := hD0.self (sz := s.heap.size)
  have hXs := hX0
  generalize hAe : (va_A (mG ad ca g a) s.heap.size) = A at hD hXs ⊢
  have hA : ∀ q : Nat, s.heap.size ≤ q → A q := fun q h => by rw [← hAe]; exact Or.inr h
  have hS : va_S A s.heap s.heap [] := va_S.rf
  have hP : va_P (dC, dI) vwCl (mG ad ca g a) s.heap := hP
  have hfA : ∀ j, j ∉ ([1, 2, 3, 4, 5, 7, 8, 9, 12, 15, 18] : List Nat) → g j = g j := fun _ _ => rfl
  have haA : ∀ j, j ∉ ([2, 3, 4, 5, 6, 7, 8, 9, 10, 11, 12, 13, 14, 15] : List Nat) → a j = a j := fun _ _ => rfl
  have hl := lv_entry ([.ref (ad 0)]) (n := 4) (Nat.le_of_ble_eq_true rfl)
  rw [lg_entry_eq]
  generalize (lg_sl ([.ref (ad 0)]) ++ List.replicate (4 - (lg_sl ([.ref (ad 0)])).length) Slot.unset).toArray = ls at hl ⊢
  have hl : lv_has ls 4 [(0, .ref (ad 0))] := hl
  generalize hQ : MQ below (va_Qi (fun (r : Int32) (u : (Nat → Int) × (Nat → Int → Int)) => ∃ z : Int, r = iI z ∧ (mI u.1 u.2) ∧ (∀ j, j ∉ ([1, 2, 3, 4, 5, 7, 8, 9, 12, 15, 18] : List Nat) → u.1 j = g j) ∧ (∀ j, j ∉ ([2, 3, 4, 5, 6, 7, 8, 9, 10, 11, 12, 13, 14, 15] : List Nat) → u.2 j = a j) ∧ (rg z) ∧ (rSh u.1 u.2) ∧ ((z = -1 ∧ u.1 18 = g 18 ∧ u.1 1 = g 1) ∨ (0 ≤ z ∧ u.1 18 = g 18 + 1 ∧ u.1 1 = 0)) ∧ (shM g a z)) (fun u t => va_P (dC, dI) vwCl (mG ad ca u.1 u.2) t.heap ∧ va_K (dC, dI) vwCl (mT ca) t ∧ va_D A (mG ad ca u.1 u.2)) A) ([.ref (ad 0)] : List Value).toArray s 0 0 A = Q
  suffices ST : ∀ (H : Heap) (locs : List Loc), va_P (dC, dI) vwCl (mG ad ca g a) H → va_S A s.heap H locs → W p l e ({ frames := 11, cells := 0, slots := 0, locals := 240 }) s m ([.ref (ad 0)] : List Value).toArray below meth c H locs 0 0 Q (F0 m 0 ls []) from ST _ _ hP hS
  clear hP hS
  intro H locs hP hS
  have hI0 := hI
  have b18_0 : 0 ≤ g 18 ∧ g 18 ≤ 12 := hI.1 18
  refine lv_aload_n hx hb dX13_sheet_0 rfl (lv_at hl 0 rfl) ?_
  refine gf_sheets hx hb hj hown hK hP hI dX13_sheet_1 (fun h_1 => ?_)
  refine lv_bipush (v := iI 12) hx hb dX13_sheet_4 rfl ?_
  refine xr_icmp_eq (tgt := 17) hx hb dX13_sheet_6 (by decide) (by omega) (by omega) (fun h_2 => ?_) (fun h_2 => ?_)
  · refine lv_iconst (v := iI (-1)) hx hb dX13_sheet_17 rfl ?_
    rw [← hQ]
    exact W.iret (v := iI (-1)) hx hb hr (fun t ht hW => ⟨⟨iI (-1), (g, a), rfl, ⟨(-1), rfl, hI, hfA, haA, by omega, by show rSh g a; first | exact rSh_t (by omega) (by omega) rfl rfl rfl rfl rfl hrSh | exact rSh_new hI0 hI hrSh hF n9 n10 n11 n13 rfl rfl rfl rfl rfl (by omega) (by omega), by show ((-1) = -1 ∧ g 18 = g 18 ∧ g 1 = g 1) ∨ (0 ≤ (-1) ∧ g 18 = g 18 + 1 ∧ g 1 = 0); omega, by show shM g a (-1); first | exact Or.inl ⟨by omega, rfl⟩ | exact shM_r _ (by omega) (by omega)⟩, by rw [ht]; exact hP, va_K.moved hW.alike hK, hD⟩, hS.F ht⟩) hS.2.2 dX13_sheet_18
  · refine lv_aload_n hx hb dX13_sheet_9 rfl (lv_at hl 0 rfl) ?_
    refine jcg_i (va_runV (As := []) (rest := []) ⟨hx, hb, hml, hown, hts⟩ (sX13_reads l dC dI _ ad ca sK sV g a  hI ) (cwV 0 hts (jgoodV m_242 m_454 m_455 m_503 m_195) rfl rfl rfl (by decide +kernel) ⟨(Nat.le_of_ble_eq_true rfl), (Nat.le_of_ble_eq_true rfl)⟩) ⟨mP_blind, va_recv hK hP (ci := 13) (q0 := 0) rfl rfl, fun U hU hW => ⟨rfl, mP_of hU hW hP hK hD hXs hS (fun _ h => h) hA⟩⟩ rfl rfl hl.1 rfl (lv_room (Nat.le_of_ble_eq_true rfl)) dX13_sheet_10 ⟨(Nat.le_of_ble_eq_true rfl), (Nat.le_of_ble_eq_true rfl)⟩) hD hS hA (fun r_3 u_12 H locs w_4 hP hK hD hS => ?_)
    obtain ⟨g_10, a_11⟩ := u_12
    obtain ⟨z_5, rfl, hI, hfr_13, hfr_14, h_6, h_7, h_8, h_9⟩ := w_4
    have hP : va_P (dC, dI) vwCl (mG ad ca g_10 a_11) H := hP
    have hD : va_D A (mG ad ca g_10 a_11) := hD
    have hfA : ∀ j, j ∉ ([1, 2, 3, 4, 5, 7, 8, 9, 12, 15, 18] : List Nat) → g_10 j = g j := fun j h => (hfr_13 j (fun q => h (by first | exact q | (simp only [List.mem_cons, List.not_mem_nil, or_false] at q ⊢ <;> omega)))).trans (hfA j h)
    have b_16 : g_10 26 = g 26 := hfA 26 (by decide)
    have b_17 := hfr_13 1 (by decide)
    have b_18 := hfr_13 18 (by decide)
    have haA : ∀ j, j ∉ ([2, 3, 4, 5, 6, 7, 8, 9, 10, 11, 12, 13, 14, 15] : List Nat) → a_11 j = a j := fun j h => (hfr_14 j (fun q => h (by first | exact q | (simp only [List.mem_cons, List.not_mem_nil, or_false] at q ⊢ <;> omega)))).trans (haA j h)
    have h_7 : z_5 ≠ -1 ∨ rF g_10 a_11 := h_7
    have h_8 : z_5 ≠ -1 ∨ 0 ≤ g_10 12 := h_8
    have b_19 : g_10 18 = g 18 := hfr_13 18 (by decide)
    have b_20 : g_10 26 = g 26 := hfr_13 26 (by decide)
    have b_21 : g_10 1 = g 1 := hfr_13 1 (by decide)
    have t_22 : a_11 9 = a 9 := (hfr_14 9 (by decide)).trans rfl
    have t_23 : a_11 10 = a 10 := (hfr_14 10 (by decide)).trans rfl
    have t_24 : a_11 11 = a 11 := (hfr_14 11 (by decide)).trans rfl
    have t_25 : a_11 12 = a 12 := (hfr_14 12 (by decide)).trans rfl
    have t_26 : a_11 16 = a 16 := (hfr_14 16 (by decide)).trans rfl
    have b_27 : 0 ≤ g_10 1 ∧ g_10 1 ≤ 600 := hI.1 1
    refine lv_iconst (v := iI (-1)) hx hb dX13_sheet_13 rfl ?_
    refine xr_icmp_eq (tgt := 19) hx hb dX13_sheet_14 (by decide) (by omega) (by omega) (fun h_28 => ?_) (fun h_28 => ?_)
    · have hF := (h_7).resolve_left (by omega)
      have hF12 := (h_8).resolve_left (by omega)
      refine lv_iconst (v := iI 0) hx hb dX13_sheet_19 rfl ?_
      refine lv_istore_n (lv' := [(1, .int (iI 0)), (0, .ref (ad 0))]) hx hb dX13_sheet_20 rfl hl (by decide) rfl (fun ls hl => ?_)
      have L21 : ∀ (n21 : Nat) (v1_21 : Int) (a_21 : Nat → Int → Int) (H : Heap) (locs : List Loc) (ls : Array Slot), (0 ≤ v1_21 ∧ v1_21 ≤ 2147483647) → (0 ≤ v1_21 ∧ v1_21 ≤ g_10 12) → (cpI (a_21 9) (a 9) (a_11 3) (600 * g 18) (v1_21)) → (cpI (a_21 10) (a 10) (a_11 4) (600 * g 18) (v1_21)) → (a_21 3 = a_11 3) → (a_21 4 = a_11 4) → (a_21 5 = a_11 5) → (a_21 6 = a_11 6) → (a_21 7 = a_11 7) → (a_21 8 = a_11 8) → (a_21 11 = a 11) → (a_21 12 = a 12) → (a_21 16 = a 16) → (mI g_10 a_21) → (∀ j, j ∉ ([2, 3, 4, 5, 6, 7, 8, 9, 10, 11, 12, 13, 14, 15] : List Nat) → a_21 j = a j) → (0 < (n21 : Int) ∧ (g_10 12) - v1_21 < (n21 : Int)) → va_P (dC, dI) vwCl (mG ad ca g_10 a_21) H → va_D A (mG ad ca g_10 a_21) → va_S A s.heap H locs → lv_has ls 4 [(1, .int (iI v1_21)), (0, .ref (ad 0))] → W p l e ({ frames := 11, cells := 0, slots := 0, locals := 240 }) s m ([.ref (ad 0)] : List Value).toArray below meth c H locs 0 0 Q (F0 m 21 ls []) := by
        intro n21
        induction n21 with
        | zero =>
          intro v1_21 a_21 H locs ls h_29 h_30 h_31 h_32 t_33 t_34 t_35 t_36 t_37 t_38 t_39 t_40 t_41 hI haA hm21 hP hD hS hl
          exfalso; omega
        | succ n21 ih21 =>
          intro v1_21 a_21 H locs ls h_42 h_43 h_44 h_45 t_46 t_47 t_48 t_49 t_50 t_51 t_52 t_53 t_54 hI haA hm21 hP hD hS hl
          refine lv_iload_n hx hb dX13_sheet_21 rfl (lv_at hl 0 rfl) ?_
          refine lv_aload_n hx hb dX13_sheet_22 rfl (lv_at hl 1 rfl) ?_
          refine gf_doing hx hb hj hown hK hP hI dX13_sheet_23 (fun h_55 => ?_)
          refine xr_icmp_ge (tgt := 77) hx hb dX13_sheet_26 (by decide) (by omega) (by omega) (fun h_56 => ?_) (fun h_56 => ?_)
          · have n12 : v1_21 = g_10 12 := by omega
            have n9 := (show cpI (a_21 9) (a 9) _ _ _ by assumption)
            rw [n12] at n9
            have n10 := (show cpI (a_21 10) (a 10) _ _ _ by assumption)
            rw [n12] at n10
            refine lv_iconst (v := iI 0) hx hb dX13_sheet_77 rfl ?_
            refine lv_istore_n (lv' := [(1, .int (iI 0)), (0, .ref (ad 0))]) hx hb dX13_sheet_78 rfl hl (by decide) rfl (fun ls hl => ?_)
            have L79 : ∀ (n79 : Nat) (v1_79 : Int) (a_79 : Nat → Int → Int) (H : Heap) (locs : List Loc) (ls : Array Slot), (0 ≤ v1_79 ∧ v1_79 ≤ 2147483647) → (0 ≤ v1_79 ∧ v1_79 ≤ 14) → (cpI (a_79 11) (a 11) (a_11 5) (14 * g 18) (v1_79)) → (cpI (a_79 12) (a 12) (a_11 6) (14 * g 18) (v1_79)) → (a_79 3 = a_11 3) → (a_79 4 = a_11 4) → (a_79 5 = a_11 5) → (a_79 6 = a_11 6) → (a_79 7 = a_11 7) → (a_79 8 = a_11 8) → (a_79 9 = a_21 9) → (a_79 10 = a_21 10) → (a_79 16 = a 16) → (mI g_10 a_79) → (∀ j, j ∉ ([2, 3, 4, 5, 6, 7, 8, 9, 10, 11, 12, 13, 14, 15] : List Nat) → a_79 j = a j) → (0 < (n79 : Int) ∧ 14 - v1_79 < (n79 : Int)) → va_P (dC, dI) vwCl (mG ad ca g_10 a_79) H → va_D A (mG ad ca g_10 a_79) → va_S A s.heap H locs → lv_has ls 4 [(1, .int (iI v1_79)), (0, .ref (ad 0))] → W p l e ({ frames := 11, cells := 0, slots := 0, locals := 240 }) s m ([.ref (ad 0)] : List Value).toArray below meth c H locs 0 0 Q (F0 m 79 ls []) := by
              intro n79
              induction n79 with
              | zero =>
                intro v1_79 a_79 H locs ls h_57 h_58 h_59 h_60 t_61 t_62 t_63 t_64 t_65 t_66 t_67 t_68 t_69 hI haA hm79 hP hD hS hl
                exfalso; omega
              | succ n79 ih79 =>
                intro v1_79 a_79 H locs ls h_70 h_71 h_72 h_73 t_74 t_75 t_76 t_77 t_78 t_79 t_80 t_81 t_82 hI haA hm79 hP hD hS hl
                refine lv_iload_n hx hb dX13_sheet_79 rfl (lv_at hl 0 rfl) ?_
                refine lv_bipush (v := iI 14) hx hb dX13_sheet_80 rfl ?_
                refine xr_icmp_ge (tgt := 131) hx hb dX13_sheet_82 (by decide) (by omega) (by omega) (fun h_83 => ?_) (fun h_83 => ?_)
                · have n14 : v1_79 = 14 := by omega
                  have n11 := (show cpI (a_79 11) (a 11) _ _ _ by assumption)
                  rw [n14] at n11
                  have n13 := (show cpI (a_79 12) (a 12) _ _ _ by assumption)
                  rw [n14] at n13
                  refine lv_aload_n hx hb dX13_sheet_131 rfl (lv_at hl 1 rfl) ?_
                  refine gf_sheetSkips hx hb hj hown hK hP dX13_sheet_132 ?_
                  refine lv_aload_n hx hb dX13_sheet_135 rfl (lv_at hl 1 rfl) ?_
                  refine gf_sheets hx hb hj hown hK hP hI dX13_sheet_136 (fun h_84 => ?_)
                  refine lv_aload_n hx hb dX13_sheet_139 rfl (lv_at hl 1 rfl) ?_
                  refine gf_skips hx hb hj hown hK hP hI dX13_sheet_140 (fun h_85 => ?_)
                  refine st_sheetSkips hx hb hK hP hD hS hI (by omega) (by omega) (by omega) (by omega) dX13_sheet_143 (fun a_86 H locs e_87 e_88 hI hP hD hS => ?_)
                  have haA : ∀ j, j ∉ ([2, 3, 4, 5, 6, 7, 8, 9, 10, 11, 12, 13, 14, 15] : List Nat) → a_86 j = a j := fun j h => (e_87 j (fun q => h (q ▸ (by decide : 13 ∈ ([2, 3, 4, 5, 6, 7, 8, 9, 10, 11, 12, 13, 14, 15] : List Nat))))).trans (haA j h)
                  have t_89 : a_86 3 = a_11 3 := (e_87 3 (by decide)).trans t_74
                  have t_90 : a_86 4 = a_11 4 := (e_87 4 (by decide)).trans t_75
                  have t_91 : a_86 5 = a_11 5 := (e_87 5 (by decide)).trans t_76
                  have t_92 : a_86 6 = a_11 6 := (e_87 6 (by decide)).trans t_77
                  have t_93 : a_86 7 = a_11 7 := (e_87 7 (by decide)).trans t_78
                  have t_94 : a_86 8 = a_11 8 := (e_87 8 (by decide)).trans t_79
                  have t_95 : a_86 9 = a_21 9 := (e_87 9 (by decide)).trans t_80
                  have t_96 : a_86 10 = a_21 10 := (e_87 10 (by decide)).trans t_81
                  have t_97 : a_86 11 = a_79 11 := (e_87 11 (by decide)).trans rfl
                  have t_98 : a_86 12 = a_79 12 := (e_87 12 (by decide)).trans rfl
                  have t_99 : a_86 16 = a 16 := (e_87 16 (by decide)).trans t_82
                  refine lv_iconst (v := iI 0) hx hb dX13_sheet_144 rfl ?_
                  refine lv_istore_n (lv' := [(1, .int (iI 0)), (0, .ref (ad 0))]) hx hb dX13_sheet_145 rfl hl (by decide) rfl (fun ls hl => ?_)
                  have L146 : ∀ (n146 : Nat) (v1_146 : Int) (a_146 : Nat → Int → Int) (H : Heap) (locs : List Loc) (ls : Array Slot), (0 ≤ v1_146 ∧ v1_146 ≤ 4) → (0 ≤ v1_146) → (a_146 3 = a_11 3) → (a_146 4 = a_11 4) → (a_146 5 = a_11 5) → (a_146 6 = a_11 6) → (a_146 7 = a_11 7) → (a_146 8 = a_11 8) → (a_146 9 = a_21 9) → (a_146 10 = a_21 10) → (a_146 11 = a_79 11) → (a_146 12 = a_79 12) → (a_146 16 = a 16) → (mI g_10 a_146) → (∀ j, j ∉ ([2, 3, 4, 5, 6, 7, 8, 9, 10, 11, 12, 13, 14, 15] : List Nat) → a_146 j = a j) → (0 < (n146 : Int) ∧ (g_10 15) - v1_146 < (n146 : Int)) → va_P (dC, dI) vwCl (mG ad ca g_10 a_146) H → va_D A (mG ad ca g_10 a_146) → va_S A s.heap H locs → lv_has ls 4 [(1, .int (iI v1_146)), (0, .ref (ad 0))] → W p l e ({ frames := 11, cells := 0, slots := 0, locals := 240 }) s m ([.ref (ad 0)] : List Value).toArray below meth c H locs 0 0 Q (F0 m 146 ls []) := by
                    intro n146
                    induction n146 with
                    | zero =>
                      intro v1_146 a_146 H locs ls h_100 h_101 t_102 t_103 t_104 t_105 t_106 t_107 t_108 t_109 t_110 t_111 t_112 hI haA hm146 hP hD hS hl
                      exfalso; omega
                    | succ n146 ih146 =>
                      intro v1_146 a_146 H locs ls h_113 h_114 t_115 t_116 t_117 t_118 t_119 t_120 t_121 t_122 t_123 t_124 t_125 hI haA hm146 hP hD hS hl
                      refine lv_iload_n hx hb dX13_sheet_146 rfl (lv_at hl 0 rfl) ?_
                      refine lv_aload_n hx hb dX13_sheet_147 rfl (lv_at hl 1 rfl) ?_
                      refine gf_skips hx hb hj hown hK hP hI dX13_sheet_148 (fun h_126 => ?_)
                      refine xr_icmp_ge (tgt := 223) hx hb dX13_sheet_151 (by decide) (by omega) (by omega) (fun h_127 => ?_) (fun h_127 => ?_)
                      · refine lv_aload_n hx hb dX13_sheet_223 rfl (lv_at hl 1 rfl) ?_
                        refine lv_iconst (v := iI 0) hx hb dX13_sheet_224 rfl ?_
                        refine pf_size hx hb hj hown hK hP hD hS hI (by omega) (by omega) dX13_sheet_225 (fun g_128 H locs e_129 e_130 hI hP hD hS => ?_)
                        have hfA : ∀ j, j ∉ ([1, 2, 3, 4, 5, 7, 8, 9, 12, 15, 18] : List Nat) → g_128 j = g j := fun j h => (e_129 j (fun q => h (q ▸ (by decide : 1 ∈ ([1, 2, 3, 4, 5, 7, 8, 9, 12, 15, 18] : List Nat))))).trans (hfA j h)
                        have b_131 := e_129 12 (by decide)
                        have b_132 := e_129 15 (by decide)
                        have b_133 := e_129 18 (by decide)
                        have b_134 : g_128 26 = g 26 := hfA 26 (by decide)
                        have b_135 := e_129 12 (by decide)
                        have b_136 := e_129 15 (by decide)
                        have b_137 := e_129 18 (by decide)
                        have b_138 := e_129 26 (by decide)
                        refine lv_aload_n hx hb dX13_sheet_228 rfl (lv_at hl 1 rfl) ?_
                        refine lv_dup hx hb dX13_sheet_229 rfl ?_
                        refine gf_sheets hx hb hj hown hK hP hI dX13_sheet_230 (fun h_139 => ?_)
                        refine lv_iconst (v := iI 1) hx hb dX13_sheet_233 rfl ?_
                        refine xr_add hx hb dX13_sheet_234 ?_
                        refine pf_sheets hx hb hj hown hK hP hD hS hI (by omega) (by omega) dX13_sheet_235 (fun g_140 H locs e_141 e_142 hI hP hD hS => ?_)
                        have hfA : ∀ j, j ∉ ([1, 2, 3, 4, 5, 7, 8, 9, 12, 15, 18] : List Nat) → g_140 j = g j := fun j h => (e_141 j (fun q => h (q ▸ (by decide : 18 ∈ ([1, 2, 3, 4, 5, 7, 8, 9, 12, 15, 18] : List Nat))))).trans (hfA j h)
                        have b_143 := e_141 1 (by decide)
                        have b_144 := e_141 12 (by decide)
                        have b_145 := e_141 15 (by decide)
                        have b_146 : g_140 26 = g 26 := hfA 26 (by decide)
                        have b_147 := e_141 12 (by decide)
                        have b_148 := e_141 15 (by decide)
                        have b_149 := e_141 26 (by decide)
                        have b_150 := e_141 1 (by decide)
                        refine lv_aload_n hx hb dX13_sheet_238 rfl (lv_at hl 1 rfl) ?_
                        refine gf_sheets hx hb hj hown hK hP hI dX13_sheet_239 (fun h_151 => ?_)
                        refine lv_iconst (v := iI 1) hx hb dX13_sheet_242 rfl ?_
                        refine xr_sub hx hb dX13_sheet_243 ?_
                        rw [← hQ]
                        exact W.iret (v := iI ((g_140 18) - 1)) hx hb hr (fun t ht hW => ⟨⟨iI ((g_140 18) - 1), (g_140, a_146), rfl, ⟨(g_140 18) - 1, rfl, hI, hfA, haA, by omega, by show rSh g_140 a_146; first | exact rSh_t (by omega) (by omega) t_121 t_122 t_123 t_124 t_125 hrSh | exact rSh_new hI0 hI hrSh hF n9 n10 n11 n13 t_121 t_122 t_123 t_124 t_125 (by omega) (by omega), by show (((g_140 18) - 1) = -1 ∧ g_140 18 = g 18 ∧ g_140 1 = g 1) ∨ (0 ≤ ((g_140 18) - 1) ∧ g_140 18 = g 18 + 1 ∧ g_140 1 = 0); omega, by show shM g a ((g_140 18) - 1); first | exact Or.inl ⟨by omega, rfl⟩ | exact shM_r h_9 (by omega) (by omega)⟩, by rw [ht]; exact hP, va_K.moved hW.alike hK, hD⟩, hS.F ht⟩) hS.2.2 dX13_sheet_244
                      · refine lv_iconst (v := iI 4) hx hb dX13_sheet_154 rfl ?_
                        refine lv_aload_n hx hb dX13_sheet_155 rfl (lv_at hl 1 rfl) ?_
                        refine gf_sheets hx hb hj hown hK hP hI dX13_sheet_156 (fun h_152 => ?_)
                        refine xr_mul hx hb dX13_sheet_159 ?_
                        refine lv_iload_n hx hb dX13_sheet_160 rfl (lv_at hl 0 rfl) ?_
                        refine xr_add hx hb dX13_sheet_161 ?_
                        refine lv_istore_n (lv' := [(2, .int (iI ((4 * (g_10 18)) + v1_146))), (1, .int (iI v1_146)), (0, .ref (ad 0))]) hx hb dX13_sheet_162 rfl hl (by decide) rfl (fun ls hl => ?_)
                        refine lv_aload_n hx hb dX13_sheet_163 rfl (lv_at hl 2 rfl) ?_
                        refine gf_skipSize hx hb hj hown hK hP dX13_sheet_164 ?_
                        refine lv_iload_n hx hb dX13_sheet_167 rfl (lv_at hl 0 rfl) ?_
                        refine lv_aload_n hx hb dX13_sheet_168 rfl (lv_at hl 2 rfl) ?_
                        refine gf_skipLong hx hb hj hown hK hP dX13_sheet_169 ?_
                        refine lv_iload_n hx hb dX13_sheet_172 rfl (lv_at hl 1 rfl) ?_
                        refine ld_skipLong hx hb hK hP hI (by omega) (by omega) dX13_sheet_173 (fun h_153 => ?_)
                        refine st_skipSize hx hb hK hP hD hS hI (by omega) (by omega) (by omega) (by omega) dX13_sheet_174 (fun a_154 H locs e_155 e_156 hI hP hD hS => ?_)
                        have haA : ∀ j, j ∉ ([2, 3, 4, 5, 6, 7, 8, 9, 10, 11, 12, 13, 14, 15] : List Nat) → a_154 j = a j := fun j h => (e_155 j (fun q => h (q ▸ (by decide : 15 ∈ ([2, 3, 4, 5, 6, 7, 8, 9, 10, 11, 12, 13, 14, 15] : List Nat))))).trans (haA j h)
                        have t_157 : a_154 3 = a_11 3 := (e_155 3 (by decide)).trans t_115
                        have t_158 : a_154 4 = a_11 4 := (e_155 4 (by decide)).trans t_116
                        have t_159 : a_154 5 = a_11 5 := (e_155 5 (by decide)).trans t_117
                        have t_160 : a_154 6 = a_11 6 := (e_155 6 (by decide)).trans t_118
                        have t_161 : a_154 7 = a_11 7 := (e_155 7 (by decide)).trans t_119
                        have t_162 : a_154 8 = a_11 8 := (e_155 8 (by decide)).trans t_120
                        have t_163 : a_154 9 = a_21 9 := (e_155 9 (by decide)).trans t_121
                        have t_164 : a_154 10 = a_21 10 := (e_155 10 (by decide)).trans t_122
                        have t_165 : a_154 11 = a_79 11 := (e_155 11 (by decide)).trans t_123
                        have t_166 : a_154 12 = a_79 12 := (e_155 12 (by decide)).trans t_124
                        have t_167 : a_154 16 = a 16 := (e_155 16 (by decide)).trans t_125
                        refine lv_iconst (v := iI 0) hx hb dX13_sheet_175 rfl ?_
                        refine lv_istore_n (lv' := [(3, .int (iI 0)), (2, .int (iI ((4 * (g_10 18)) + v1_146))), (1, .int (iI v1_146)), (0, .ref (ad 0))]) hx hb dX13_sheet_176 rfl hl (by decide) rfl (fun ls hl => ?_)
                        have L177 : ∀ (n177 : Nat) (v3_177 : Int) (a_177 : Nat → Int → Int) (H : Heap) (locs : List Loc) (ls : Array Slot), (0 ≤ v3_177 ∧ v3_177 ≤ 2147483647) → (0 ≤ v3_177) → (a_177 3 = a_11 3) → (a_177 4 = a_11 4) → (a_177 5 = a_11 5) → (a_177 6 = a_11 6) → (a_177 7 = a_11 7) → (a_177 8 = a_11 8) → (a_177 9 = a_21 9) → (a_177 10 = a_21 10) → (a_177 11 = a_79 11) → (a_177 12 = a_79 12) → (a_177 16 = a 16) → (mI g_10 a_177) → (∀ j, j ∉ ([2, 3, 4, 5, 6, 7, 8, 9, 10, 11, 12, 13, 14, 15] : List Nat) → a_177 j = a j) → (0 < (n177 : Int) ∧ (a_177 8 v1_146) - v3_177 < (n177 : Int)) → va_P (dC, dI) vwCl (mG ad ca g_10 a_177) H → va_D A (mG ad ca g_10 a_177) → va_S A s.heap H locs → lv_has ls 4 [(3, .int (iI v3_177)), (2, .int (iI ((4 * (g_10 18)) + v1_146))), (1, .int (iI v1_146)), (0, .ref (ad 0))] → W p l e ({ frames := 11, cells := 0, slots := 0, locals := 240 }) s m ([.ref (ad 0)] : List Value).toArray below meth c H locs 0 0 Q (F0 m 177 ls []) := by
                          intro n177
                          induction n177 with
                          | zero =>
                            intro v3_177 a_177 H locs ls h_168 h_169 t_170 t_171 t_172 t_173 t_174 t_175 t_176 t_177 t_178 t_179 t_180 hI haA hm177 hP hD hS hl
                            exfalso; omega
                          | succ n177 ih177 =>
                            intro v3_177 a_177 H locs ls h_181 h_182 t_183 t_184 t_185 t_186 t_187 t_188 t_189 t_190 t_191 t_192 t_193 hI haA hm177 hP hD hS hl
                            refine lv_iload_n hx hb dX13_sheet_177 rfl (lv_at hl 0 rfl) ?_
                            refine lv_aload_n hx hb dX13_sheet_178 rfl (lv_at hl 3 rfl) ?_
                            refine gf_skipLong hx hb hj hown hK hP dX13_sheet_179 ?_
                            refine lv_iload_n hx hb dX13_sheet_182 rfl (lv_at hl 2 rfl) ?_
                            refine ld_skipLong hx hb hK hP hI (by omega) (by omega) dX13_sheet_183 (fun h_194 => ?_)
                            refine xr_icmp_ge (tgt := 217) hx hb dX13_sheet_184 (by decide) (by omega) (by omega) (fun h_195 => ?_) (fun h_195 => ?_)
                            · refine lv_iinc (v := iI (v1_146 + 1)) (lv' := [(1, .int (iI (v1_146 + 1))), (3, .int (iI v3_177)), (2, .int (iI ((4 * (g_10 18)) + v1_146))), (0, .ref (ad 0))]) hx hb dX13_sheet_217 hl (k := 2) rfl (iI_add _ _) (by decide) rfl (fun ls hl => ?_)
                              refine lv_goto (tgt := 146) hx hb dX13_sheet_220 (by decide) ?_
                              exact ih146 (v1_146 + 1) a_177 H locs ls (by omega) (by omega) t_183 t_184 t_185 t_186 t_187 t_188 t_189 t_190 t_191 t_192 t_193 hI haA (by omega) hP hD hS (lv_sub hl [0, 3] rfl)
                            · refine lv_aload_n hx hb dX13_sheet_187 rfl (lv_at hl 3 rfl) ?_
                              refine gf_skipText hx hb hj hown hK hP dX13_sheet_188 ?_
                              refine lv_bipush (v := iI 8) hx hb dX13_sheet_191 rfl ?_
                              refine lv_iload_n hx hb dX13_sheet_193 rfl (lv_at hl 1 rfl) ?_
                              refine xr_mul hx hb dX13_sheet_194 ?_
                              refine lv_iload_n hx hb dX13_sheet_195 rfl (lv_at hl 0 rfl) ?_
                              refine xr_add hx hb dX13_sheet_196 ?_
                              refine lv_aload_n hx hb dX13_sheet_197 rfl (lv_at hl 3 rfl) ?_
                              refine gf_text hx hb hj hown hK hP dX13_sheet_198 ?_
                              refine lv_aload_n hx hb dX13_sheet_201 rfl (lv_at hl 3 rfl) ?_
                              refine gf_skipAt hx hb hj hown hK hP dX13_sheet_202 ?_
                              refine lv_iload_n hx hb dX13_sheet_205 rfl (lv_at hl 2 rfl) ?_
                              refine ld_skipAt hx hb hK hP hI (by omega) (by omega) dX13_sheet_206 (fun h_196 => ?_)
                              refine lv_iload_n hx hb dX13_sheet_207 rfl (lv_at hl 0 rfl) ?_
                              have c7 := congrFun t_187 (v1_146)
                              have c8 := congrFun t_188 (v1_146)
                              have ck := hF.2 (v1_146) (by omega) (by omega)
                              refine xr_add hx hb dX13_sheet_208 ?_
                              refine ld_text hx hb hK hP hI (by omega) (by omega) dX13_sheet_209 (fun h_197 => ?_)
                              refine st_skipText hx hb hK hP hD hS hI (by omega) (by omega) dX13_sheet_210 (fun a_198 z_201 H locs h_202 e_199 e_200 hI hP hD hS => ?_)
                              have haA : ∀ j, j ∉ ([2, 3, 4, 5, 6, 7, 8, 9, 10, 11, 12, 13, 14, 15] : List Nat) → a_198 j = a j := fun j h => (e_199 j (fun q => h (q ▸ (by decide : 14 ∈ ([2, 3, 4, 5, 6, 7, 8, 9, 10, 11, 12, 13, 14, 15] : List Nat))))).trans (haA j h)
                              have t_203 : a_198 3 = a_11 3 := (e_199 3 (by decide)).trans t_183
                              have t_204 : a_198 4 = a_11 4 := (e_199 4 (by decide)).trans t_184
                              have t_205 : a_198 5 = a_11 5 := (e_199 5 (by decide)).trans t_185
                              have t_206 : a_198 6 = a_11 6 := (e_199 6 (by decide)).trans t_186
                              have t_207 : a_198 7 = a_11 7 := (e_199 7 (by decide)).trans t_187
                              have t_208 : a_198 8 = a_11 8 := (e_199 8 (by decide)).trans t_188
                              have t_209 : a_198 9 = a_21 9 := (e_199 9 (by decide)).trans t_189
                              have t_210 : a_198 10 = a_21 10 := (e_199 10 (by decide)).trans t_190
                              have t_211 : a_198 11 = a_79 11 := (e_199 11 (by decide)).trans t_191
                              have t_212 : a_198 12 = a_79 12 := (e_199 12 (by decide)).trans t_192
                              have t_213 : a_198 16 = a 16 := (e_199 16 (by decide)).trans t_193
                              have c8b := congrFun t_208 (v1_146)
                              refine lv_iinc (v := iI (v3_177 + 1)) (lv' := [(3, .int (iI (v3_177 + 1))), (2, .int (iI ((4 * (g_10 18)) + v1_146))), (1, .int (iI v1_146)), (0, .ref (ad 0))]) hx hb dX13_sheet_211 hl (k := 0) rfl (iI_add _ _) (by decide) rfl (fun ls hl => ?_)
                              refine lv_goto (tgt := 177) hx hb dX13_sheet_214 (by decide) ?_
                              exact ih177 (v3_177 + 1) a_198 H locs ls (by omega) (by omega) t_203 t_204 t_205 t_206 t_207 t_208 t_209 t_210 t_211 t_212 t_213 hI haA (by omega) hP hD hS hl
                        exact L177 ((((a_154 8 v1_146) - 0 : Int)).toNat + 1) 0 a_154 H locs ls (by omega) (by omega) t_157 t_158 t_159 t_160 t_161 t_162 t_163 t_164 t_165 t_166 t_167 hI haA (by omega) hP hD hS hl
                  exact L146 ((((g_10 15) - 0 : Int)).toNat + 1) 0 a_86 H locs ls (by omega) (by omega) t_89 t_90 t_91 t_92 t_93 t_94 t_95 t_96 t_97 t_98 t_99 hI haA (by omega) hP hD hS hl
                · refine lv_aload_n hx hb dX13_sheet_85 rfl (lv_at hl 1 rfl) ?_
                  refine gf_sheetBegin hx hb hj hown hK hP dX13_sheet_86 ?_
                  refine lv_bipush (v := iI 14) hx hb dX13_sheet_89 rfl ?_
                  refine lv_aload_n hx hb dX13_sheet_91 rfl (lv_at hl 1 rfl) ?_
                  refine gf_sheets hx hb hj hown hK hP hI dX13_sheet_92 (fun h_214 => ?_)
                  refine xr_mul hx hb dX13_sheet_95 ?_
                  refine lv_iload_n hx hb dX13_sheet_96 rfl (lv_at hl 0 rfl) ?_
                  refine xr_add hx hb dX13_sheet_97 ?_
                  refine lv_aload_n hx hb dX13_sheet_98 rfl (lv_at hl 1 rfl) ?_
                  refine gf_slotBegin hx hb hj hown hK hP dX13_sheet_99 ?_
                  refine lv_iload_n hx hb dX13_sheet_102 rfl (lv_at hl 0 rfl) ?_
                  have c5 := congrFun t_76 (v1_79)
                  refine ld_slotBegin hx hb hK hP hI (by omega) (by omega) dX13_sheet_103 (fun h_215 => ?_)
                  refine st_sheetBegin hx hb hK hP hD hS hI (by omega) (by omega) (by omega) (by omega) dX13_sheet_104 (fun a_216 H locs e_217 e_218 hI hP hD hS => ?_)
                  have haA : ∀ j, j ∉ ([2, 3, 4, 5, 6, 7, 8, 9, 10, 11, 12, 13, 14, 15] : List Nat) → a_216 j = a j := fun j h => (e_217 j (fun q => h (q ▸ (by decide : 11 ∈ ([2, 3, 4, 5, 6, 7, 8, 9, 10, 11, 12, 13, 14, 15] : List Nat))))).trans (haA j h)
                  have t_219 : a_216 3 = a_11 3 := (e_217 3 (by decide)).trans t_74
                  have t_220 : a_216 4 = a_11 4 := (e_217 4 (by decide)).trans t_75
                  have t_221 : a_216 5 = a_11 5 := (e_217 5 (by decide)).trans t_76
                  have t_222 : a_216 6 = a_11 6 := (e_217 6 (by decide)).trans t_77
                  have t_223 : a_216 7 = a_11 7 := (e_217 7 (by decide)).trans t_78
                  have t_224 : a_216 8 = a_11 8 := (e_217 8 (by decide)).trans t_79
                  have t_225 : a_216 9 = a_21 9 := (e_217 9 (by decide)).trans t_80
                  have t_226 : a_216 10 = a_21 10 := (e_217 10 (by decide)).trans t_81
                  have t_227 : a_216 11 = up (a_79 11) ((14 * (g 18)) + v1_79) (a_79 5 v1_79) := e_218.trans (up_c rfl (by omega) (by omega))
                  have t_228 : a_216 12 = a_79 12 := (e_217 12 (by decide)).trans rfl
                  have t_229 : a_216 16 = a 16 := (e_217 16 (by decide)).trans t_82
                  refine lv_aload_n hx hb dX13_sheet_105 rfl (lv_at hl 1 rfl) ?_
                  refine gf_sheetEnd hx hb hj hown hK hP dX13_sheet_106 ?_
                  refine lv_bipush (v := iI 14) hx hb dX13_sheet_109 rfl ?_
                  refine lv_aload_n hx hb dX13_sheet_111 rfl (lv_at hl 1 rfl) ?_
                  refine gf_sheets hx hb hj hown hK hP hI dX13_sheet_112 (fun h_230 => ?_)
                  refine xr_mul hx hb dX13_sheet_115 ?_
                  refine lv_iload_n hx hb dX13_sheet_116 rfl (lv_at hl 0 rfl) ?_
                  refine xr_add hx hb dX13_sheet_117 ?_
                  refine lv_aload_n hx hb dX13_sheet_118 rfl (lv_at hl 1 rfl) ?_
                  refine gf_slotEnd hx hb hj hown hK hP dX13_sheet_119 ?_
                  refine lv_iload_n hx hb dX13_sheet_122 rfl (lv_at hl 0 rfl) ?_
                  have c6 := congrFun t_222 (v1_79)
                  refine ld_slotEnd hx hb hK hP hI (by omega) (by omega) dX13_sheet_123 (fun h_231 => ?_)
                  refine st_sheetEnd hx hb hK hP hD hS hI (by omega) (by omega) (by omega) (by omega) dX13_sheet_124 (fun a_232 H locs e_233 e_234 hI hP hD hS => ?_)
                  have haA : ∀ j, j ∉ ([2, 3, 4, 5, 6, 7, 8, 9, 10, 11, 12, 13, 14, 15] : List Nat) → a_232 j = a j := fun j h => (e_233 j (fun q => h (q ▸ (by decide : 12 ∈ ([2, 3, 4, 5, 6, 7, 8, 9, 10, 11, 12, 13, 14, 15] : List Nat))))).trans (haA j h)
                  have t_235 : a_232 3 = a_11 3 := (e_233 3 (by decide)).trans t_219
                  have t_236 : a_232 4 = a_11 4 := (e_233 4 (by decide)).trans t_220
                  have t_237 : a_232 5 = a_11 5 := (e_233 5 (by decide)).trans t_221
                  have t_238 : a_232 6 = a_11 6 := (e_233 6 (by decide)).trans t_222
                  have t_239 : a_232 7 = a_11 7 := (e_233 7 (by decide)).trans t_223
                  have t_240 : a_232 8 = a_11 8 := (e_233 8 (by decide)).trans t_224
                  have t_241 : a_232 9 = a_21 9 := (e_233 9 (by decide)).trans t_225
                  have t_242 : a_232 10 = a_21 10 := (e_233 10 (by decide)).trans t_226
                  have t_243 : a_232 11 = up (a_79 11) ((14 * (g 18)) + v1_79) (a_79 5 v1_79) := (e_233 11 (by decide)).trans t_227
                  have t_244 : a_232 12 = up (a_79 12) ((14 * (g 18)) + v1_79) (a_216 6 v1_79) := e_234.trans (up_c t_228 (by omega) (by omega))
                  have t_245 : a_232 16 = a 16 := (e_233 16 (by decide)).trans t_229
                  refine lv_iinc (v := iI (v1_79 + 1)) (lv' := [(1, .int (iI (v1_79 + 1))), (0, .ref (ad 0))]) hx hb dX13_sheet_125 hl (k := 0) rfl (iI_add _ _) (by decide) rfl (fun ls hl => ?_)
                  refine lv_goto (tgt := 79) hx hb dX13_sheet_128 (by decide) ?_
                  exact ih79 (v1_79 + 1) a_232 H locs ls (by omega) (by omega) (by first | exact cpI_0 t_243 | exact cpI_s (by assumption) t_243 c5 (by omega)) (by first | exact cpI_0 t_244 | exact cpI_s (by assumption) t_244 c6 (by omega)) t_235 t_236 t_237 t_238 t_239 t_240 t_241 t_242 t_245 hI haA (by omega) hP hD hS hl
            exact L79 (((14 - 0 : Int)).toNat + 1) 0 a_21 H locs ls (by omega) (by omega) (by first | exact cpI_0 t_52 | exact cpI_s (by assumption) t_52 c5 (by omega)) (by first | exact cpI_0 t_53 | exact cpI_s (by assumption) t_53 c6 (by omega)) t_46 t_47 t_48 t_49 t_50 t_51 rfl rfl t_54 hI haA (by omega) hP hD hS hl
          · refine lv_aload_n hx hb dX13_sheet_29 rfl (lv_at hl 1 rfl) ?_
            refine gf_codes hx hb hj hown hK hP dX13_sheet_30 ?_
            refine lv_sipush (v := iI 600) hx hb dX13_sheet_33 rfl ?_
            refine lv_aload_n hx hb dX13_sheet_36 rfl (lv_at hl 1 rfl) ?_
            refine gf_sheets hx hb hj hown hK hP hI dX13_sheet_37 (fun h_246 => ?_)
            refine xr_mul hx hb dX13_sheet_40 ?_
            refine lv_iload_n hx hb dX13_sheet_41 rfl (lv_at hl 0 rfl) ?_
            refine xr_add hx hb dX13_sheet_42 ?_
            refine lv_aload_n hx hb dX13_sheet_43 rfl (lv_at hl 1 rfl) ?_
            refine gf_does hx hb hj hown hK hP dX13_sheet_44 ?_
            refine lv_iload_n hx hb dX13_sheet_47 rfl (lv_at hl 0 rfl) ?_
            have c3 := congrFun t_46 (v1_21)
            refine ld_does hx hb hK hP hI (by omega) (by omega) dX13_sheet_48 (fun h_247 => ?_)
            refine sa_codes hx hb hK hP hD hS hI (by omega) (by omega) dX13_sheet_49 (fun a_248 z_251 H locs h_252 h_253 e_249 e_250 hI hP hD hS => ?_)
            have haA : ∀ j, j ∉ ([2, 3, 4, 5, 6, 7, 8, 9, 10, 11, 12, 13, 14, 15] : List Nat) → a_248 j = a j := fun j h => (e_249 j (fun q => h (q ▸ (by decide : 9 ∈ ([2, 3, 4, 5, 6, 7, 8, 9, 10, 11, 12, 13, 14, 15] : List Nat))))).trans (haA j h)
            have t_254 : a_248 3 = a_11 3 := (e_249 3 (by decide)).trans t_46
            have t_255 : a_248 4 = a_11 4 := (e_249 4 (by decide)).trans t_47
            have t_256 : a_248 5 = a_11 5 := (e_249 5 (by decide)).trans t_48
            have t_257 : a_248 6 = a_11 6 := (e_249 6 (by decide)).trans t_49
            have t_258 : a_248 7 = a_11 7 := (e_249 7 (by decide)).trans t_50
            have t_259 : a_248 8 = a_11 8 := (e_249 8 (by decide)).trans t_51
            have t_260 : a_248 9 = up (a_21 9) ((600 * (g 18)) + v1_21) (a_21 3 v1_21) := e_250.trans (up_c rfl (by omega) (by omega))
            have t_261 : a_248 10 = a_21 10 := (e_249 10 (by decide)).trans rfl
            have t_262 : a_248 11 = a 11 := (e_249 11 (by decide)).trans t_52
            have t_263 : a_248 12 = a 12 := (e_249 12 (by decide)).trans t_53
            have t_264 : a_248 16 = a 16 := (e_249 16 (by decide)).trans t_54
            refine lv_aload_n hx hb dX13_sheet_50 rfl (lv_at hl 1 rfl) ?_
            refine gf_codesWith hx hb hj hown hK hP dX13_sheet_51 ?_
            refine lv_sipush (v := iI 600) hx hb dX13_sheet_54 rfl ?_
            refine lv_aload_n hx hb dX13_sheet_57 rfl (lv_at hl 1 rfl) ?_
            refine gf_sheets hx hb hj hown hK hP hI dX13_sheet_58 (fun h_265 => ?_)
            refine xr_mul hx hb dX13_sheet_61 ?_
            refine lv_iload_n hx hb dX13_sheet_62 rfl (lv_at hl 0 rfl) ?_
            refine xr_add hx hb dX13_sheet_63 ?_
            refine lv_aload_n hx hb dX13_sheet_64 rfl (lv_at hl 1 rfl) ?_
            refine gf_doesWith hx hb hj hown hK hP dX13_sheet_65 ?_
            refine lv_iload_n hx hb dX13_sheet_68 rfl (lv_at hl 0 rfl) ?_
            have c4 := congrFun t_255 (v1_21)
            refine ld_doesWith hx hb hK hP hI (by omega) (by omega) dX13_sheet_69 (fun h_266 => ?_)
            refine sa_codesWith hx hb hK hP hD hS hI (by omega) (by omega) dX13_sheet_70 (fun a_267 z_270 H locs h_271 h_272 e_268 e_269 hI hP hD hS => ?_)
            have haA : ∀ j, j ∉ ([2, 3, 4, 5, 6, 7, 8, 9, 10, 11, 12, 13, 14, 15] : List Nat) → a_267 j = a j := fun j h => (e_268 j (fun q => h (q ▸ (by decide : 10 ∈ ([2, 3, 4, 5, 6, 7, 8, 9, 10, 11, 12, 13, 14, 15] : List Nat))))).trans (haA j h)
            have t_273 : a_267 3 = a_11 3 := (e_268 3 (by decide)).trans t_254
            have t_274 : a_267 4 = a_11 4 := (e_268 4 (by decide)).trans t_255
            have t_275 : a_267 5 = a_11 5 := (e_268 5 (by decide)).trans t_256
            have t_276 : a_267 6 = a_11 6 := (e_268 6 (by decide)).trans t_257
            have t_277 : a_267 7 = a_11 7 := (e_268 7 (by decide)).trans t_258
            have t_278 : a_267 8 = a_11 8 := (e_268 8 (by decide)).trans t_259
            have t_279 : a_267 9 = up (a_21 9) ((600 * (g 18)) + v1_21) (a_21 3 v1_21) := (e_268 9 (by decide)).trans t_260
            have t_280 : a_267 10 = up (a_21 10) ((600 * (g 18)) + v1_21) (a_248 4 v1_21) := e_269.trans (up_c t_261 (by omega) (by omega))
            have t_281 : a_267 11 = a 11 := (e_268 11 (by decide)).trans t_262
            have t_282 : a_267 12 = a 12 := (e_268 12 (by decide)).trans t_263
            have t_283 : a_267 16 = a 16 := (e_268 16 (by decide)).trans t_264
            refine lv_iinc (v := iI (v1_21 + 1)) (lv' := [(1, .int (iI (v1_21 + 1))), (0, .ref (ad 0))]) hx hb dX13_sheet_71 hl (k := 0) rfl (iI_add _ _) (by decide) rfl (fun ls hl => ?_)
            refine lv_goto (tgt := 21) hx hb dX13_sheet_74 (by decide) ?_
            exact ih21 (v1_21 + 1) a_267 H locs ls (by omega) (by omega) (by first | exact cpI_0 t_279 | exact cpI_s (by assumption) t_279 c3 (by omega)) (by first | exact cpI_0 t_280 | exact cpI_s (by assumption) t_280 c4 (by omega)) t_273 t_274 t_275 t_276 t_277 t_278 t_281 t_282 t_283 hI haA (by omega) hP hD hS hl
      exact L21 ((((g_10 12) - 0 : Int)).toNat + 1) 0 a_11 H locs ls (by omega) (by omega) (by first | exact cpI_0 t_22 | exact cpI_s (by assumption) t_22 c3 (by omega)) (by first | exact cpI_0 t_23 | exact cpI_s (by assumption) t_23 c4 (by omega)) rfl rfl rfl rfl rfl rfl t_24 t_25 t_26 hI haA (by omega) hP hD hS hl
    · refine lv_iconst (v := iI (-1)) hx hb dX13_sheet_17 rfl ?_
      rw [← hQ]
      exact W.iret (v := iI (-1)) hx hb hr (fun t ht hW => ⟨⟨iI (-1), (g_10, a_11), rfl, ⟨(-1), rfl, hI, hfA, haA, by omega, by show rSh g_10 a_11; first | exact rSh_t (by omega) (by omega) t_22 t_23 t_24 t_25 t_26 hrSh | exact rSh_new hI0 hI hrSh hF n9 n10 n11 n13 t_22 t_23 t_24 t_25 t_26 (by omega) (by omega), by show ((-1) = -1 ∧ g_10 18 = g 18 ∧ g_10 1 = g 1) ∨ (0 ≤ (-1) ∧ g_10 18 = g 18 + 1 ∧ g_10 1 = 0); omega, by show shM g a (-1); first | exact Or.inl ⟨by omega, rfl⟩ | exact shM_r h_9 (by omega) (by omega)⟩, by rw [ht]; exact hP, va_K.moved hW.alike hK, hD⟩, hS.F ht⟩) hS.2.2 dX13_sheet_18
