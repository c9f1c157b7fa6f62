set_option maxHeartbeats 2000000 in
set_option maxRecDepth 100000 in
theorem sX13_of (l : Launch) (dC : Nat → ClassId) (dI : Nat → Nat → Nat) (sz : Nat) (p1 : Int) (p2 : Int) (p3 : Int) (q1 : rg p1) (q2 : rg p2) (q3 : rg p3) : Met l yX13_of (jk yX13_of cX13_of 3 (some .int)) ({ frames := 1, cells := 0, slots := 0, locals := 21 }) (va_Pc [.int (iI p1), .int (iI p2), .int (iI p3)] (fun U => U.heap.size = sz)) (va_Qi (fun (r : Int32) (_ : Unit) => ∃ z : Int, r = iI z ∧ (rg z)) (fun _ _ => True) (va_A [] sz)) 0 0 (va_A [] sz) := by
  refine Met.ofW (cc := cX13_of) (maxL := 3) (ret := (some .int)) (by decide) rfl ?_
  intro p e s m args below meth c s₁ B hml hv
  obtain ⟨rfl, hsz⟩ := hv
  have hx := B.exec
  have hb := B.bytes
  have hr := B.returns
  have hts := atoms_spec (ws := (jk yX13_of cX13_of 3 (some .int))) B.pre
  have hj : ∀ w ∈ jw, w.before ([.int (iI p1), .int (iI p2), .int (iI p3)] : List Value).toArray s = true := fun w h => hts w (jm h)
  have hown : s.vm.findClass RX13 = some m.cls := findClass_of_methodNamed B.named
  subst hsz
  have hP : va_P (dC, dI) vwCl [] s.heap := fun k q h => by simp at h
  generalize hAe : (va_A [] s.heap.size) = A
  have hA : ∀ q : Nat, s.heap.size ≤ q → A q := fun q h => by rw [← hAe]; exact Or.inr h
  have hS : va_S A s.heap s.heap [] := va_S.rf
  have hl := lv_entry ([.int (iI p1), .int (iI p2), .int (iI p3)]) (n := 3) (Nat.le_of_ble_eq_true rfl)
  rw [lg_entry_eq]
  generalize (lg_sl ([.int (iI p1), .int (iI p2), .int (iI p3)]) ++ List.replicate (3 - (lg_sl ([.int (iI p1), .int (iI p2), .int (iI p3)])).length) Slot.unset).toArray = ls at hl ⊢
  have hl : lv_has ls 3 [(0, .int (iI p1)), (1, .int (iI p2)), (2, .int (iI p3))] := hl
  generalize hQ : MQ below (va_Qi (fun (r : Int32) (_ : Unit) => ∃ z : Int, r = iI z ∧ (rg z)) (fun _ _ => True) A) ([.int (iI p1), .int (iI p2), .int (iI p3)] : List Value).toArray s 0 0 A = Q
  suffices ST : ∀ (H : Heap) (locs : List Loc), va_P (dC, dI) vwCl [] H → va_S A s.heap H locs → W p l e ({ frames := 1, cells := 0, slots := 0, locals := 21 }) s m ([.int (iI p1), .int (iI p2), .int (iI p3)] : List Value).toArray below meth c H locs 0 0 Q (F0 m 0 ls []) from ST _ _ hP hS
  clear hP hS
  intro H locs hP hS
  refine lv_iload_n hx hb dX13_of_0 rfl (lv_at hl 0 rfl) ?_
  rcases (show (p1 < 2 ∨ 9 < p1) ∨ p1 = 2 ∨ p1 = 3 ∨ p1 = 4 ∨ p1 = 5 ∨ p1 = 6 ∨ p1 = 7 ∨ p1 = 8 ∨ p1 = 9 by omega) with h_1 | h_1 | h_1 | h_1 | h_1 | h_1 | h_1 | h_1 | h_1
  · refine lv_tableOut (tgt := 133) hx hb dX13_of_1 (by rw [iI_toInt (by omega)]; omega) (by decide) ?_
    refine lv_iload_n hx hb dX13_of_133 rfl (lv_at hl 1 rfl) ?_
    refine lv_iload_n hx hb dX13_of_134 rfl (lv_at hl 2 rfl) ?_
    refine xr_add hx hb dX13_of_135 ?_
    refine xr_kept (fun z_2 h_3 h_4 => ?_)
    refine xr_if_le (tgt := 143) hx hb dX13_of_136 (by decide) (by omega) (fun h_5 => ?_) (fun h_5 => ?_)
    · refine lv_iconst (v := iI 0) hx hb dX13_of_143 rfl ?_
      rw [← hQ]
      exact W.iret (v := iI 0) hx hb hr (fun t ht hW => ⟨⟨iI 0, (), rfl, ⟨0, rfl, by omega⟩, trivial⟩, hS.F ht⟩) hS.2.2 dX13_of_144
    · refine lv_iconst (v := iI 1) hx hb dX13_of_139 rfl ?_
      refine lv_goto (tgt := 144) hx hb dX13_of_140 (by decide) ?_
      rw [← hQ]
      exact W.iret (v := iI 1) hx hb hr (fun t ht hW => ⟨⟨iI 1, (), rfl, ⟨1, rfl, by omega⟩, trivial⟩, hS.F ht⟩) hS.2.2 dX13_of_144
  · refine jtab_in (v := iI 2) (off := 47) (tgt := 48) hx hb dX13_of_1 (by rw [h_1]) (by decide) (by decide) (by decide) (by decide) ?_
    refine lv_iload_n hx hb dX13_of_48 rfl (lv_at hl 1 rfl) ?_
    refine lv_i2l (v := (iI p2).toInt64) hx hb dX13_of_49 rfl ?_
    refine lv_iload_n hx hb dX13_of_50 rfl (lv_at hl 2 rfl) ?_
    refine lv_i2l (v := (iI p3).toInt64) hx hb dX13_of_51 rfl ?_
    refine lv_ladd hx hb dX13_of_52 ?_
    refine jc_i (va_runS (As := [.long (((iI p2).toInt64) + ((iI p3).toInt64))]) (rest := []) ⟨hx, hb, hml, hown, hts⟩ (sX13_near l dC dI _ (((iI p2).toInt64) + ((iI p3).toInt64)) ) (va_cwS 1 hts (jgoodS m_246 m_430 m_503 m_182) rfl rfl rfl (by decide +kernel) ⟨(Nat.le_of_ble_eq_true rfl), (Nat.le_of_ble_eq_true rfl)⟩) ⟨jw_blind0, fun U hU hW => ⟨rfl, congrArg Array.size hU⟩⟩ rfl rfl hl.1 rfl (lv_room (Nat.le_of_ble_eq_true rfl)) dX13_of_53 ⟨(Nat.le_of_ble_eq_true rfl), (Nat.le_of_ble_eq_true rfl)⟩) hP hS hA (fun r_6 H locs w_7 hP hS => ?_)
    obtain ⟨z_8, rfl, h_9⟩ := w_7
    rw [← hQ]
    exact W.iret (v := iI z_8) hx hb hr (fun t ht hW => ⟨⟨iI z_8, (), rfl, ⟨z_8, rfl, by omega⟩, trivial⟩, hS.F ht⟩) hS.2.2 dX13_of_56
  · refine jtab_in (v := iI 3) (off := 56) (tgt := 57) hx hb dX13_of_1 (by rw [h_1]) (by decide) (by decide) (by decide) (by decide) ?_
    refine lv_iload_n hx hb dX13_of_57 rfl (lv_at hl 1 rfl) ?_
    refine lv_i2l (v := (iI p2).toInt64) hx hb dX13_of_58 rfl ?_
    refine lv_iload_n hx hb dX13_of_59 rfl (lv_at hl 2 rfl) ?_
    refine lv_i2l (v := (iI p3).toInt64) hx hb dX13_of_60 rfl ?_
    refine lv_lsub hx hb dX13_of_61 ?_
    refine jc_i (va_runS (As := [.long (((iI p2).toInt64) - ((iI p3).toInt64))]) (rest := []) ⟨hx, hb, hml, hown, hts⟩ (sX13_near l dC dI _ (((iI p2).toInt64) - ((iI p3).toInt64)) ) (va_cwS 1 hts (jgoodS m_246 m_430 m_503 m_182) rfl rfl rfl (by decide +kernel) ⟨(Nat.le_of_ble_eq_true rfl), (Nat.le_of_ble_eq_true rfl)⟩) ⟨jw_blind0, fun U hU hW => ⟨rfl, congrArg Array.size hU⟩⟩ rfl rfl hl.1 rfl (lv_room (Nat.le_of_ble_eq_true rfl)) dX13_of_62 ⟨(Nat.le_of_ble_eq_true rfl), (Nat.le_of_ble_eq_true rfl)⟩) hP hS hA (fun r_10 H locs w_11 hP hS => ?_)
    obtain ⟨z_12, rfl, h_13⟩ := w_11
    rw [← hQ]
    exact W.iret (v := iI z_12) hx hb hr (fun t ht hW => ⟨⟨iI z_12, (), rfl, ⟨z_12, rfl, by omega⟩, trivial⟩, hS.F ht⟩) hS.2.2 dX13_of_65
  · refine jtab_in (v := iI 4) (off := 65) (tgt := 66) hx hb dX13_of_1 (by rw [h_1]) (by decide) (by decide) (by decide) (by decide) ?_
    refine lv_iload_n hx hb dX13_of_66 rfl (lv_at hl 1 rfl) ?_
    refine lv_i2l (v := (iI p2).toInt64) hx hb dX13_of_67 rfl ?_
    refine lv_iload_n hx hb dX13_of_68 rfl (lv_at hl 2 rfl) ?_
    refine lv_i2l (v := (iI p3).toInt64) hx hb dX13_of_69 rfl ?_
    refine lv_lmul hx hb dX13_of_70 ?_
    refine jc_i (va_runS (As := [.long (((iI p2).toInt64) * ((iI p3).toInt64))]) (rest := []) ⟨hx, hb, hml, hown, hts⟩ (sX13_near l dC dI _ (((iI p2).toInt64) * ((iI p3).toInt64)) ) (va_cwS 1 hts (jgoodS m_246 m_430 m_503 m_182) rfl rfl rfl (by decide +kernel) ⟨(Nat.le_of_ble_eq_true rfl), (Nat.le_of_ble_eq_true rfl)⟩) ⟨jw_blind0, fun U hU hW => ⟨rfl, congrArg Array.size hU⟩⟩ rfl rfl hl.1 rfl (lv_room (Nat.le_of_ble_eq_true rfl)) dX13_of_71 ⟨(Nat.le_of_ble_eq_true rfl), (Nat.le_of_ble_eq_true rfl)⟩) hP hS hA (fun r_14 H locs w_15 hP hS => ?_)
    obtain ⟨z_16, rfl, h_17⟩ := w_15
    rw [← hQ]
    exact W.iret (v := iI z_16) hx hb hr (fun t ht hW => ⟨⟨iI z_16, (), rfl, ⟨z_16, rfl, by omega⟩, trivial⟩, hS.F ht⟩) hS.2.2 dX13_of_74
  · refine jtab_in (v := iI 5) (off := 74) (tgt := 75) hx hb dX13_of_1 (by rw [h_1]) (by decide) (by decide) (by decide) (by decide) ?_
    refine lv_iload_n hx hb dX13_of_75 rfl (lv_at hl 2 rfl) ?_
    refine xr_if_ne (tgt := 83) hx hb dX13_of_76 (by decide) (by omega) (fun h_18 => ?_) (fun h_18 => ?_)
    · refine lv_iload_n hx hb dX13_of_83 rfl (lv_at hl 1 rfl) ?_
      refine lv_iload_n hx hb dX13_of_84 rfl (lv_at hl 2 rfl) ?_
      refine xr_divA hx hb dX13_of_85 (by omega) (by omega) (fun z_19 h_20 => ?_)
      rw [← hQ]
      exact W.iret (v := iI z_19) hx hb hr (fun t ht hW => ⟨⟨iI z_19, (), rfl, ⟨z_19, rfl, by omega⟩, trivial⟩, hS.F ht⟩) hS.2.2 dX13_of_86
    · refine lv_iconst (v := iI 0) hx hb dX13_of_79 rfl ?_
      refine lv_goto (tgt := 86) hx hb dX13_of_80 (by decide) ?_
      rw [← hQ]
      exact W.iret (v := iI 0) hx hb hr (fun t ht hW => ⟨⟨iI 0, (), rfl, ⟨0, rfl, by omega⟩, trivial⟩, hS.F ht⟩) hS.2.2 dX13_of_86
  · refine jtab_in (v := iI 6) (off := 86) (tgt := 87) hx hb dX13_of_1 (by rw [h_1]) (by decide) (by decide) (by decide) (by decide) ?_
    refine lv_iload_n hx hb dX13_of_87 rfl (lv_at hl 1 rfl) ?_
    refine lv_iload_n hx hb dX13_of_88 rfl (lv_at hl 2 rfl) ?_
    refine xr_icmp_ge (tgt := 96) hx hb dX13_of_89 (by decide) (by omega) (by omega) (fun h_21 => ?_) (fun h_21 => ?_)
    · refine lv_iconst (v := iI 0) hx hb dX13_of_96 rfl ?_
      rw [← hQ]
      exact W.iret (v := iI 0) hx hb hr (fun t ht hW => ⟨⟨iI 0, (), rfl, ⟨0, rfl, by omega⟩, trivial⟩, hS.F ht⟩) hS.2.2 dX13_of_97
    · refine lv_iconst (v := iI 1) hx hb dX13_of_92 rfl ?_
      refine lv_goto (tgt := 97) hx hb dX13_of_93 (by decide) ?_
      rw [← hQ]
      exact W.iret (v := iI 1) hx hb hr (fun t ht hW => ⟨⟨iI 1, (), rfl, ⟨1, rfl, by omega⟩, trivial⟩, hS.F ht⟩) hS.2.2 dX13_of_97
  · refine jtab_in (v := iI 7) (off := 97) (tgt := 98) hx hb dX13_of_1 (by rw [h_1]) (by decide) (by decide) (by decide) (by decide) ?_
    refine lv_iload_n hx hb dX13_of_98 rfl (lv_at hl 1 rfl) ?_
    refine lv_iload_n hx hb dX13_of_99 rfl (lv_at hl 2 rfl) ?_
    refine xr_icmp_le (tgt := 107) hx hb dX13_of_100 (by decide) (by omega) (by omega) (fun h_22 => ?_) (fun h_22 => ?_)
    · refine lv_iconst (v := iI 0) hx hb dX13_of_107 rfl ?_
      rw [← hQ]
      exact W.iret (v := iI 0) hx hb hr (fun t ht hW => ⟨⟨iI 0, (), rfl, ⟨0, rfl, by omega⟩, trivial⟩, hS.F ht⟩) hS.2.2 dX13_of_108
    · refine lv_iconst (v := iI 1) hx hb dX13_of_103 rfl ?_
      refine lv_goto (tgt := 108) hx hb dX13_of_104 (by decide) ?_
      rw [← hQ]
      exact W.iret (v := iI 1) hx hb hr (fun t ht hW => ⟨⟨iI 1, (), rfl, ⟨1, rfl, by omega⟩, trivial⟩, hS.F ht⟩) hS.2.2 dX13_of_108
  · refine jtab_in (v := iI 8) (off := 108) (tgt := 109) hx hb dX13_of_1 (by rw [h_1]) (by decide) (by decide) (by decide) (by decide) ?_
    refine lv_iload_n hx hb dX13_of_109 rfl (lv_at hl 1 rfl) ?_
    refine lv_iload_n hx hb dX13_of_110 rfl (lv_at hl 2 rfl) ?_
    refine xr_icmp_ne (tgt := 118) hx hb dX13_of_111 (by decide) (by omega) (by omega) (fun h_23 => ?_) (fun h_23 => ?_)
    · refine lv_iconst (v := iI 0) hx hb dX13_of_118 rfl ?_
      rw [← hQ]
      exact W.iret (v := iI 0) hx hb hr (fun t ht hW => ⟨⟨iI 0, (), rfl, ⟨0, rfl, by omega⟩, trivial⟩, hS.F ht⟩) hS.2.2 dX13_of_119
    · refine lv_iconst (v := iI 1) hx hb dX13_of_114 rfl ?_
      refine lv_goto (tgt := 119) hx hb dX13_of_115 (by decide) ?_
      rw [← hQ]
      exact W.iret (v := iI 1) hx hb hr (fun t ht hW => ⟨⟨iI 1, (), rfl, ⟨1, rfl, by omega⟩, trivial⟩, hS.F ht⟩) hS.2.2 dX13_of_119
  · refine jtab_in (v := iI 9) (off := 119) (tgt := 120) hx hb dX13_of_1 (by rw [h_1]) (by decide) (by decide) (by decide) (by decide) ?_
    refine lv_iload_n hx hb dX13_of_120 rfl (lv_at hl 1 rfl) ?_
    refine lv_iload_n hx hb dX13_of_121 rfl (lv_at hl 2 rfl) ?_
    refine xr_add hx hb dX13_of_122 ?_
    refine xr_kept (fun z_24 h_25 h_26 => ?_)
    refine lv_iconst (v := iI 2) hx hb dX13_of_123 rfl ?_
    refine xr_icmp_ne (tgt := 131) hx hb dX13_of_124 (by decide) (by omega) (by omega) (fun h_27 => ?_) (fun h_27 => ?_)
    · refine lv_iconst (v := iI 0) hx hb dX13_of_131 rfl ?_
      rw [← hQ]
      exact W.iret (v := iI 0) hx hb hr (fun t ht hW => ⟨⟨iI 0, (), rfl, ⟨0, rfl, by omega⟩, trivial⟩, hS.F ht⟩) hS.2.2 dX13_of_132
    · refine lv_iconst (v := iI 1) hx hb dX13_of_127 rfl ?_
      refine lv_goto (tgt := 132) hx hb dX13_of_128 (by decide) ?_
      rw [← hQ]
      exact W.iret (v := iI 1) hx hb hr (fun t ht hW => ⟨⟨iI 1, (), rfl, ⟨1, rfl, by omega⟩, trivial⟩, hS.F ht⟩) hS.2.2 dX13_of_132
set_option maxHeartbeats 2000000 in
set_option maxRecDepth 100000 in
theorem sX13_reckoned (l : Launch) (dC : Nat → ClassId) (dI : Nat → Nat → Nat) (sz : Nat) (ad : Nat → Nat) (ca : Nat → ClassId) (g : Nat → Int) (a : Nat → Int → Int) (p1 : Int) (p2 : Int) (hI : mI g a) (q1 : rg p1) (q2 : rg p2) (k1 : 0 ≤ p1 ∧ p1 ≤ 11) (k2 : 0 ≤ p2 ∧ p2 ≤ 13) (k3 : p1 < g 18) (hrSh : rSh g a) : Met l yX13_reckoned (jk yX13_reckoned cX13_reckoned 7 (some .int)) ({ frames := 2, cells := 0, slots := 0, locals := 43 }) (va_Pc [.ref (ad 0), .int (iI p1), .int (iI p2)] (jw_P (dC, dI) (mG ad ca g a) (mT ca) sz)) (va_Qi (fun (r : Int32) (u : (Nat → Int) × (Nat → Int → Int)) => ∃ z : Int, r = iI z ∧ (u.1 = g) ∧ (mI u.1 u.2) ∧ (∀ j, j ∉ ([63] : List Nat) → u.2 j = a j) ∧ (rg z)) (fun u t => va_P (dC, dI) vwCl (mG ad ca u.1 u.2) t.heap ∧ va_K (dC, dI) vwCl (mT ca) t ∧ va_D (va_A (mG ad ca g a) sz) (mG ad ca u.1 u.2)) (va_A (mG ad ca g a) sz)) 0 0 (va_A (mG ad ca g a) sz) := by
  refine Met.ofW (cc := cX13_reckoned) (maxL := 7) (ret := (some .int)) (by decide) rfl ?_
  intro p e s m args below meth c s₁ B hml hv
  obtain ⟨rfl, hsz, hP, hK, hD0⟩ := hv
  have hx := B.exec
  have hb := B.bytes
  have hr := B.returns
  have hts := atoms_spec (ws := (jk yX13_reckoned cX13_reckoned 7 (some .int))) B.pre
  have hj : ∀ w ∈ jw, w.before ([.ref (ad 0), .int (iI p1), .int (iI p2)] : List Value).toArray s = true := fun w h => hts w (jm h)
  have hown : s.vm.findClass RX13 = some m.cls := findClass_of_methodNamed B.named
  subst hsz
  have hD := hD0.self (sz := s.heap.size)
  generalize hAe : (va_A (mG ad ca g a) s.heap.size) = A at hD ⊢
  have hA : ∀ q : Nat, s.heap.size ≤ q → A q := fun q h => by rw [← hAe]; exact Or.inr h
  have hS : va_S A s.heap s.heap [] := va_S.rf
  have hP : va_P (dC, dI) vwCl (mG ad ca g a) s.heap := hP
  have haA : ∀ j, j ∉ ([63] : List Nat) → a j = a j := fun _ _ => rfl
  have hl := lv_entry ([.ref (ad 0), .int (iI p1), .int (iI p2)]) (n := 7) (Nat.le_of_ble_eq_true rfl)
  rw [lg_entry_eq]
  generalize (lg_sl ([.ref (ad 0), .int (iI p1), .int (iI p2)]) ++ List.replicate (7 - (lg_sl ([.ref (ad 0), .int (iI p1), .int (iI p2)])).length) Slot.unset).toArray = ls at hl ⊢
  have hl : lv_has ls 7 [(0, .ref (ad 0)), (1, .int (iI p1)), (2, .int (iI p2))] := hl
  generalize hQ : MQ below (va_Qi (fun (r : Int32) (u : (Nat → Int) × (Nat → Int → Int)) => ∃ z : Int, r = iI z ∧ (u.1 = g) ∧ (mI u.1 u.2) ∧ (∀ j, j ∉ ([63] : List Nat) → u.2 j = a j) ∧ (rg z)) (fun u t => va_P (dC, dI) vwCl (mG ad ca u.1 u.2) t.heap ∧ va_K (dC, dI) vwCl (mT ca) t ∧ va_D A (mG ad ca u.1 u.2)) A) ([.ref (ad 0), .int (iI p1), .int (iI p2)] : List Value).toArray s 0 0 A = Q
  suffices ST : ∀ (H : Heap) (locs : List Loc), va_P (dC, dI) vwCl (mG ad ca g a) H → va_S A s.heap H locs → W p l e ({ frames := 2, cells := 0, slots := 0, locals := 43 }) s m ([.ref (ad 0), .int (iI p1), .int (iI p2)] : List Value).toArray below meth c H locs 0 0 Q (F0 m 0 ls []) from ST _ _ hP hS
  clear hP hS
  intro H locs hP hS
  have b18_0 : 0 ≤ g 18 ∧ g 18 ≤ 12 := hI.1 18
  refine lv_iconst (v := iI 0) hx hb dX13_reckoned_0 rfl ?_
  refine lv_istore_n (lv' := [(3, .int (iI 0)), (0, .ref (ad 0)), (1, .int (iI p1)), (2, .int (iI p2))]) hx hb dX13_reckoned_1 rfl hl (by decide) rfl (fun ls hl => ?_)
  refine lv_sipush (v := iI 600) hx hb dX13_reckoned_2 rfl ?_
  refine lv_iload_n hx hb dX13_reckoned_5 rfl (lv_at hl 2 rfl) ?_
  refine xr_mul hx hb dX13_reckoned_6 ?_
  refine lv_aload_n hx hb dX13_reckoned_7 rfl (lv_at hl 1 rfl) ?_
  refine gf_sheetEnd hx hb hj hown hK hP dX13_reckoned_8 ?_
  refine lv_bipush (v := iI 14) hx hb dX13_reckoned_11 rfl ?_
  refine lv_iload_n hx hb dX13_reckoned_13 rfl (lv_at hl 2 rfl) ?_
  refine xr_mul hx hb dX13_reckoned_14 ?_
  refine lv_iload_n hx hb dX13_reckoned_15 rfl (lv_at hl 3 rfl) ?_
  refine xr_add hx hb dX13_reckoned_16 ?_
  refine ld_sheetEnd hx hb hK hP hI (by omega) (by omega) dX13_reckoned_17 (fun h_1 => ?_)
  refine xr_add hx hb dX13_reckoned_18 ?_
  refine lv_istore (lv' := [(4, .int (iI ((600 * p1) + (a 12 ((14 * p1) + p2))))), (3, .int (iI 0)), (0, .ref (ad 0)), (1, .int (iI p1)), (2, .int (iI p2))]) hx hb dX13_reckoned_19 hl (by decide) rfl (fun ls hl => ?_)
  refine lv_sipush (v := iI 600) hx hb dX13_reckoned_21 rfl ?_
  refine lv_iload_n hx hb dX13_reckoned_24 rfl (lv_at hl 3 rfl) ?_
  refine xr_mul hx hb dX13_reckoned_25 ?_
  refine lv_aload_n hx hb dX13_reckoned_26 rfl (lv_at hl 2 rfl) ?_
  refine gf_sheetBegin hx hb hj hown hK hP dX13_reckoned_27 ?_
  refine lv_bipush (v := iI 14) hx hb dX13_reckoned_30 rfl ?_
  refine lv_iload_n hx hb dX13_reckoned_32 rfl (lv_at hl 3 rfl) ?_
  refine xr_mul hx hb dX13_reckoned_33 ?_
  refine lv_iload_n hx hb dX13_reckoned_34 rfl (lv_at hl 4 rfl) ?_
  refine xr_add hx hb dX13_reckoned_35 ?_
  refine ld_sheetBegin hx hb hK hP hI (by omega) (by omega) dX13_reckoned_36 (fun h_2 => ?_)
  refine xr_add hx hb dX13_reckoned_37 ?_
  have hq := hrSh.2 p1 p2 (by omega) (by omega) (by omega) (by omega)
  refine lv_istore (lv' := [(5, .int (iI ((600 * p1) + (a 11 ((14 * p1) + p2))))), (4, .int (iI ((600 * p1) + (a 12 ((14 * p1) + p2))))), (3, .int (iI 0)), (0, .ref (ad 0)), (1, .int (iI p1)), (2, .int (iI p2))]) hx hb dX13_reckoned_38 hl (by decide) rfl (fun ls hl => ?_)
  have L40 : ∀ (n40 : Nat) (v5_40 v3_40 : Int) (a_40 : Nat → Int → Int) (H : Heap) (locs : List Loc) (ls : Array Slot), ((-1) ≤ v5_40 ∧ v5_40 ≤ 7200) → ((-2147483648) ≤ v3_40 ∧ v3_40 ≤ 2147483647) → (rkI (a 9) (a 10) ((600 * p1) + (a 11 ((14 * p1) + p2))) ((600 * p1) + (a 12 ((14 * p1) + p2))) v5_40 v3_40) → (0 ≤ v3_40 ∧ v3_40 ≤ 7200) → (((600 * p1) + (a 11 ((14 * p1) + p2))) ≤ v5_40) → (mI g a_40) → (∀ j, j ∉ ([63] : List Nat) → a_40 j = a j) → (0 < (n40 : Int) ∧ (600 * p1) + (a 12 ((14 * p1) + p2)) - v5_40 < (n40 : Int)) → va_P (dC, dI) vwCl (mG ad ca g a_40) H → va_D A (mG ad ca g a_40) → va_S A s.heap H locs → lv_has ls 7 [(5, .int (iI v5_40)), (4, .int (iI ((600 * p1) + (a 12 ((14 * p1) + p2))))), (3, .int (iI v3_40)), (0, .ref (ad 0)), (1, .int (iI p1)), (2, .int (iI p2))] → W p l e ({ frames := 2, cells := 0, slots := 0, locals := 43 }) s m ([.ref (ad 0), .int (iI p1), .int (iI p2)] : List Value).toArray below meth c H locs 0 0 Q (F0 m 40 ls []) := by
    intro n40
    induction n40 with
    | zero =>
      intro v5_40 v3_40 a_40 H locs ls h_3 h_4 h_5 h_6 h_7 hI haA hm40 hP hD hS hl
      exfalso; omega
    | succ n40 ih40 =>
      intro v5_40 v3_40 a_40 H locs ls h_8 h_9 h_10 h_11 h_12 hI haA hm40 hP hD hS hl
      refine lv_iload hx hb dX13_reckoned_40 (lv_at hl 0 rfl) ?_
      refine lv_iload hx hb dX13_reckoned_42 (lv_at hl 1 rfl) ?_
      refine xr_icmp_ge (tgt := 165) hx hb dX13_reckoned_44 (by decide) (by omega) (by omega) (fun h_13 => ?_) (fun h_13 => ?_)
      · refine lv_aload_n hx hb dX13_reckoned_165 rfl (lv_at hl 3 rfl) ?_
        refine gf_heap hx hb hj hown hK hP dX13_reckoned_166 ?_
        refine lv_iconst (v := iI 0) hx hb dX13_reckoned_169 rfl ?_
        refine ld_heap hx hb hK hP hI (by omega) (by omega) dX13_reckoned_170 (fun h_14 => ?_)
        rw [← hQ]
        exact W.iret (v := iI (a_40 63 0)) hx hb hr (fun t ht hW => ⟨⟨iI (a_40 63 0), (g, a_40), rfl, ⟨a_40 63 0, rfl, rfl, hI, haA, by omega⟩, by rw [ht]; exact hP, va_K.moved hW.alike hK, hD⟩, hS.F ht⟩) hS.2.2 dX13_reckoned_171
      · refine lv_aload_n hx hb dX13_reckoned_47 rfl (lv_at hl 3 rfl) ?_
        refine gf_codes hx hb hj hown hK hP dX13_reckoned_48 ?_
        refine lv_iload hx hb dX13_reckoned_51 (lv_at hl 0 rfl) ?_
        obtain ⟨r1, r2, r3, r4, r5⟩ := rk_st (show rkI (a 9) (a 10) ((600 * p1) + (a 11 ((14 * p1) + p2))) ((600 * p1) + (a 12 ((14 * p1) + p2))) v5_40 v3_40 by assumption) (by omega) (by rcases hq with q | q; omega; omega)
        have c9 := congrFun (haA 9 (by decide)) (v5_40)
        have c10 := congrFun (haA 10 (by decide)) (v5_40)
        refine ld_codes hx hb hK hP hI (by omega) (by omega) dX13_reckoned_53 (fun h_15 => ?_)
        refine lv_istore (lv' := [(6, .int (iI (a_40 9 v5_40))), (5, .int (iI v5_40)), (4, .int (iI ((600 * p1) + (a 12 ((14 * p1) + p2))))), (3, .int (iI v3_40)), (0, .ref (ad 0)), (1, .int (iI p1)), (2, .int (iI p2))]) hx hb dX13_reckoned_54 hl (by decide) rfl (fun ls hl => ?_)
        refine lv_iload hx hb dX13_reckoned_56 (lv_at hl 0 rfl) ?_
        refine lv_iconst (v := iI 1) hx hb dX13_reckoned_58 rfl ?_
        have J159 : ∀ (v3_159 : Int) (a_159 : Nat → Int → Int) (H : Heap) (locs : List Loc) (ls : Array Slot), ((-2147483648) ≤ v3_159 ∧ v3_159 ≤ 2147483647) → (rkI (a 9) (a 10) ((600 * p1) + (a 11 ((14 * p1) + p2))) ((600 * p1) + (a 12 ((14 * p1) + p2))) (v5_40 + 1) v3_159) → (0 ≤ v3_159 ∧ v3_159 ≤ 7200) → (mI g a_159) → (∀ j, j ∉ ([63] : List Nat) → a_159 j = a j) → va_P (dC, dI) vwCl (mG ad ca g a_159) H → va_D A (mG ad ca g a_159) → va_S A s.heap H locs → lv_has ls 7 [(6, .int (iI (a_40 9 v5_40))), (5, .int (iI v5_40)), (4, .int (iI ((600 * p1) + (a 12 ((14 * p1) + p2))))), (3, .int (iI v3_159)), (0, .ref (ad 0)), (1, .int (iI p1)), (2, .int (iI p2))] → W p l e ({ frames := 2, cells := 0, slots := 0, locals := 43 }) s m ([.ref (ad 0), .int (iI p1), .int (iI p2)] : List Value).toArray below meth c H locs 0 0 Q (F0 m 159 ls []) := by
          intro v3_159 a_159 H locs ls h_16 h_17 h_18 hI haA hP hD hS hl
          refine lv_iinc (v := iI (v5_40 + 1)) (lv' := [(5, .int (iI (v5_40 + 1))), (6, .int (iI (a_40 9 v5_40))), (4, .int (iI ((600 * p1) + (a 12 ((14 * p1) + p2))))), (3, .int (iI v3_159)), (0, .ref (ad 0)), (1, .int (iI p1)), (2, .int (iI p2))]) hx hb dX13_reckoned_159 hl (k := 1) rfl (iI_add _ _) (by decide) rfl (fun ls hl => ?_)
          refine lv_goto (tgt := 40) hx hb dX13_reckoned_162 (by decide) ?_
          exact ih40 (v5_40 + 1) v3_159 a_159 H locs ls (by omega) (by omega) (by first | exact rkI_0 (hq.elim (fun q => Or.inl (by omega)) (fun q => Or.inr ⟨by omega, by obtain ⟨d, hd⟩ := q.2; exact ⟨d, hd⟩⟩)) | assumption) (by omega) (by omega) hI haA (by omega) hP hD hS (lv_sub hl [0, 2, 3, 4, 5, 6] rfl)
        refine xr_icmp_gt (tgt := 101) hx hb dX13_reckoned_59 (by decide) (by omega) (by omega) (fun h_19 => ?_) (fun h_19 => ?_)
        · refine lv_iload hx hb dX13_reckoned_101 (lv_at hl 0 rfl) ?_
          refine lv_bipush (v := iI 11) hx hb dX13_reckoned_103 rfl ?_
          refine xr_icmp_ne (tgt := 129) hx hb dX13_reckoned_105 (by decide) (by omega) (by omega) (fun h_20 => ?_) (fun h_20 => ?_)
          · refine lv_iinc (v := iI (v3_40 + (-1))) (lv' := [(3, .int (iI (v3_40 + (-1)))), (6, .int (iI (a_40 9 v5_40))), (5, .int (iI v5_40)), (4, .int (iI ((600 * p1) + (a 12 ((14 * p1) + p2))))), (0, .ref (ad 0)), (1, .int (iI p1)), (2, .int (iI p2))]) hx hb dX13_reckoned_129 hl (k := 3) rfl (iI_add _ _) (by decide) rfl (fun ls hl => ?_)
            refine lv_aload_n hx hb dX13_reckoned_132 rfl (lv_at hl 4 rfl) ?_
            refine gf_heap hx hb hj hown hK hP dX13_reckoned_133 ?_
            refine lv_iload_n hx hb dX13_reckoned_136 rfl (lv_at hl 0 rfl) ?_
            refine lv_iconst (v := iI 1) hx hb dX13_reckoned_137 rfl ?_
            refine xr_sub hx hb dX13_reckoned_138 ?_
            refine xr_kept (fun z_21 h_22 h_23 => ?_)
            refine lv_iload hx hb dX13_reckoned_139 (lv_at hl 1 rfl) ?_
            refine lv_aload_n hx hb dX13_reckoned_141 rfl (lv_at hl 4 rfl) ?_
            refine gf_heap hx hb hj hown hK hP dX13_reckoned_142 ?_
            refine lv_iload_n hx hb dX13_reckoned_145 rfl (lv_at hl 0 rfl) ?_
            refine lv_iconst (v := iI 1) hx hb dX13_reckoned_146 rfl ?_
            refine xr_sub hx hb dX13_reckoned_147 ?_
            refine xr_kept (fun z_24 h_25 h_26 => ?_)
            refine ld_heap hx hb hK hP hI (by omega) (by omega) dX13_reckoned_148 (fun h_27 => ?_)
            refine lv_aload_n hx hb dX13_reckoned_149 rfl (lv_at hl 4 rfl) ?_
            refine gf_heap hx hb hj hown hK hP dX13_reckoned_150 ?_
            refine lv_iload_n hx hb dX13_reckoned_153 rfl (lv_at hl 0 rfl) ?_
            refine ld_heap hx hb hK hP hI (by omega) (by omega) dX13_reckoned_154 (fun h_28 => ?_)
            refine jc_i (va_runS (As := [.int (iI (a_40 9 v5_40)), .int (iI (a_40 63 z_24)), .int (iI (a_40 63 (v3_40 + (-1))))]) (rest := [.int (iI z_21), .ref (ad 63)]) ⟨hx, hb, hml, hown, hts⟩ (sX13_of l dC dI _ (a_40 9 v5_40) (a_40 63 z_24) (a_40 63 (v3_40 + (-1))) (by omega) (by omega) (by omega)) (va_cwS 3 hts (jgoodS m_245 m_435 m_503 m_185) rfl rfl rfl (by decide +kernel) ⟨(Nat.le_of_ble_eq_true rfl), (Nat.le_of_ble_eq_true rfl)⟩) ⟨jw_blind0, fun U hU hW => ⟨rfl, congrArg Array.size hU⟩⟩ rfl rfl hl.1 rfl (lv_room (Nat.le_of_ble_eq_true rfl)) dX13_reckoned_155 ⟨(Nat.le_of_ble_eq_true rfl), (Nat.le_of_ble_eq_true rfl)⟩) hP hS hA (fun r_29 H locs w_30 hP hS => ?_)
            obtain ⟨z_31, rfl, h_32⟩ := w_30
            refine sa_heap hx hb hK hP hD hS hI (by omega) (by omega) dX13_reckoned_158 (fun a_33 z_36 H locs h_37 h_38 e_34 e_35 hI hP hD hS => ?_)
            have haA : ∀ j, j ∉ ([63] : List Nat) → a_33 j = a j := fun j h => (e_34 j (fun q => h (q ▸ (by decide : 63 ∈ ([63] : List Nat))))).trans (haA j h)
            exact J159 (v3_40 + (-1)) a_33 H locs ls (by omega) (by first | exact rkI_c (r3 (by omega)) rfl (by omega) | exact rkI_c (r4 (by omega)) rfl (by omega) | exact rkI_c (r5 (by omega)) rfl (by omega)) (by omega) hI haA hP hD hS (lv_sub hl [1, 2, 3, 0, 4, 5, 6] rfl)
          · refine lv_aload_n hx hb dX13_reckoned_108 rfl (lv_at hl 4 rfl) ?_
            refine gf_heap hx hb hj hown hK hP dX13_reckoned_109 ?_
            refine lv_iload_n hx hb dX13_reckoned_112 rfl (lv_at hl 3 rfl) ?_
            refine lv_iconst (v := iI 1) hx hb dX13_reckoned_113 rfl ?_
            refine xr_sub hx hb dX13_reckoned_114 ?_
            refine xr_kept (fun z_39 h_40 h_41 => ?_)
            refine lv_iconst (v := iI 1) hx hb dX13_reckoned_115 rfl ?_
            refine lv_aload_n hx hb dX13_reckoned_116 rfl (lv_at hl 4 rfl) ?_
            refine gf_heap hx hb hj hown hK hP dX13_reckoned_117 ?_
            refine lv_iload_n hx hb dX13_reckoned_120 rfl (lv_at hl 3 rfl) ?_
            refine lv_iconst (v := iI 1) hx hb dX13_reckoned_121 rfl ?_
            refine xr_sub hx hb dX13_reckoned_122 ?_
            refine xr_kept (fun z_42 h_43 h_44 => ?_)
            refine ld_heap hx hb hK hP hI (by omega) (by omega) dX13_reckoned_123 (fun h_45 => ?_)
            refine xr_sub hx hb dX13_reckoned_124 ?_
            refine xr_kept (fun z_46 h_47 h_48 => ?_)
            refine sa_heap hx hb hK hP hD hS hI (by omega) (by omega) dX13_reckoned_125 (fun a_49 z_52 H locs h_53 h_54 e_50 e_51 hI hP hD hS => ?_)
            have haA : ∀ j, j ∉ ([63] : List Nat) → a_49 j = a j := fun j h => (e_50 j (fun q => h (q ▸ (by decide : 63 ∈ ([63] : List Nat))))).trans (haA j h)
            refine lv_goto (tgt := 159) hx hb dX13_reckoned_126 (by decide) ?_
            exact J159 v3_40 a_49 H locs ls (by omega) (by first | exact rkI_c (r3 (by omega)) rfl (by omega) | exact rkI_c (r4 (by omega)) rfl (by omega) | exact rkI_c (r5 (by omega)) rfl (by omega)) (by omega) hI haA hP hD hS hl
        · refine lv_aload_n hx hb dX13_reckoned_62 rfl (lv_at hl 4 rfl) ?_
          refine gf_heap hx hb hj hown hK hP dX13_reckoned_63 ?_
          refine lv_iload_n hx hb dX13_reckoned_66 rfl (lv_at hl 3 rfl) ?_
          refine lv_iload hx hb dX13_reckoned_67 (lv_at hl 0 rfl) ?_
          have J94 : ∀ (s0_94 : Int) (H : Heap) (locs : List Loc) (ls : Array Slot), ((-2147483648) ≤ s0_94 ∧ s0_94 ≤ 2147483647) → va_P (dC, dI) vwCl (mG ad ca g a_40) H → va_D A (mG ad ca g a_40) → va_S A s.heap H locs → lv_has ls 7 [(6, .int (iI (a_40 9 v5_40))), (5, .int (iI v5_40)), (4, .int (iI ((600 * p1) + (a 12 ((14 * p1) + p2))))), (3, .int (iI v3_40)), (0, .ref (ad 0)), (1, .int (iI p1)), (2, .int (iI p2))] → W p l e ({ frames := 2, cells := 0, slots := 0, locals := 43 }) s m ([.ref (ad 0), .int (iI p1), .int (iI p2)] : List Value).toArray below meth c H locs 0 0 Q (F0 m 94 ls [.int (iI s0_94), .int (iI v3_40), .ref (ad 63)]) := by
            intro s0_94 H locs ls h_55 hP hD hS hl
            refine sa_heap hx hb hK hP hD hS hI (by omega) (by omega) dX13_reckoned_94 (fun a_56 z_59 H locs h_60 h_61 e_57 e_58 hI hP hD hS => ?_)
            have haA : ∀ j, j ∉ ([63] : List Nat) → a_56 j = a j := fun j h => (e_57 j (fun q => h (q ▸ (by decide : 63 ∈ ([63] : List Nat))))).trans (haA j h)
            refine lv_iinc (v := iI (v3_40 + 1)) (lv' := [(3, .int (iI (v3_40 + 1))), (6, .int (iI (a_40 9 v5_40))), (5, .int (iI v5_40)), (4, .int (iI ((600 * p1) + (a 12 ((14 * p1) + p2))))), (0, .ref (ad 0)), (1, .int (iI p1)), (2, .int (iI p2))]) hx hb dX13_reckoned_95 hl (k := 3) rfl (iI_add _ _) (by decide) rfl (fun ls hl => ?_)
            refine lv_goto (tgt := 159) hx hb dX13_reckoned_98 (by decide) ?_
            exact J159 (v3_40 + 1) a_56 H locs ls (by omega) (by first | exact rkI_c (r3 (by omega)) rfl (by omega) | exact rkI_c (r4 (by omega)) rfl (by omega) | exact rkI_c (r5 (by omega)) rfl (by omega)) (by omega) hI haA hP hD hS (lv_sub hl [1, 2, 3, 0, 4, 5, 6] rfl)
          refine xr_if_ne (tgt := 82) hx hb dX13_reckoned_69 (by decide) (by omega) (fun h_62 => ?_) (fun h_62 => ?_)
          · refine lv_aload_n hx hb dX13_reckoned_82 rfl (lv_at hl 4 rfl) ?_
            refine gf_names hx hb hj hown hK hP dX13_reckoned_83 ?_
            refine lv_aload_n hx hb dX13_reckoned_86 rfl (lv_at hl 4 rfl) ?_
            refine gf_codesWith hx hb hj hown hK hP dX13_reckoned_87 ?_
            refine lv_iload hx hb dX13_reckoned_90 (lv_at hl 1 rfl) ?_
            refine ld_codesWith hx hb hK hP hI (by omega) (by omega) dX13_reckoned_92 (fun h_63 => ?_)
            refine ld_names hx hb hK hP hI (by omega) (by omega) dX13_reckoned_93 (fun h_64 => ?_)
            exact J94 (a_40 62 (a_40 10 v5_40)) H locs ls (by omega) hP hD hS hl
          · refine lv_aload_n hx hb dX13_reckoned_72 rfl (lv_at hl 4 rfl) ?_
            refine gf_codesWith hx hb hj hown hK hP dX13_reckoned_73 ?_
            refine lv_iload hx hb dX13_reckoned_76 (lv_at hl 1 rfl) ?_
            refine ld_codesWith hx hb hK hP hI (by omega) (by omega) dX13_reckoned_78 (fun h_65 => ?_)
            refine lv_goto (tgt := 94) hx hb dX13_reckoned_79 (by decide) ?_
            exact J94 (a_40 10 v5_40) H locs ls (by omega) hP hD hS hl
  exact L40 ((((600 * p1) + (a 12 ((14 * p1) + p2)) - ((600 * p1) + (a 11 ((14 * p1) + p2))) : Int)).toNat + 1) ((600 * p1) + (a 11 ((14 * p1) + p2))) 0 a H locs ls (by omega) (by omega) (by first | exact rkI_0 (hq.elim (fun q => Or.inl (by omega)) (fun q => Or.inr ⟨by omega, by obtain ⟨d, hd⟩ := q.2; exact ⟨d, hd⟩⟩)) | assumption) (by omega) (by omega) hI haA (by omega) hP hD hS hl
set_option maxHeartbeats 2000000 in
set_option maxRecDepth 100000 in
theorem sX13_tells (l : Launch) (dC : Nat → ClassId) (dI : Nat → Nat → Nat) (sz : Nat) (ad : Nat → Nat) (ca : Nat → ClassId) (g : Nat → Int) (a : Nat → Int → Int) (p1 : Int) (p2 : Int) (p3 : Int) (hI : mI g a) (q1 : rg p1) (q2 : rg p2) (q3 : rg p3) (k1 : 0 ≤ p1 ∧ p1 ≤ 13) (hrSh : rSh g a) : Met l yX13_tells (jk yX13_tells cX13_tells 5 (some .int)) ({ frames := 3, cells := 0, slots := 0, locals := 69 }) (va_Pc [.ref (ad 0), .int (iI p1), .int (iI p2), .int (iI p3)] (jw_P (dC, dI) (mG ad ca g a) (mT ca) sz)) (va_Qi (fun (r : Int32) (u : (Nat → Int) × (Nat → Int → Int)) => ∃ z : Int, r = iI z ∧ (u.1 = g) ∧ (mI u.1 u.2) ∧ (∀ j, j ∉ ([63] : List Nat) → u.2 j = a j) ∧ (rg z)) (fun u t => va_P (dC, dI) vwCl (mG ad ca u.1 u.2) t.heap ∧ va_K (dC, dI) vwCl (mT ca) t ∧ va_D (va_A (mG ad ca g a) sz) (mG ad ca u.1 u.2)) (va_A (mG ad ca g a) sz)) 0 0 (va_A (mG ad ca g a) sz) := by
  refine Met.ofW (cc := cX13_tells) (maxL := 5) (ret := (some .int)) (by decide) rfl ?_
  intro p e s m args below meth c s₁ B hml hv
  obtain ⟨rfl, hsz, hP, hK, hD0⟩ := hv
  have hx := B.exec
  have hb := B.bytes
  have hr := B.returns
  have hts := atoms_spec (ws := (jk yX13_tells cX13_tells 5 (some .int))) B.pre
  have hj : ∀ w ∈ jw, w.before ([.ref (ad 0), .int (iI p1), .int (iI p2), .int (iI p3)] : List Value).toArray s = true := fun w h => hts w (jm h)
  have hown : s.vm.findClass RX13 = some m.cls := findClass_of_methodNamed B.named
  subst hsz
  have hD := hD0.self (sz := s.heap.size)
  generalize hAe : (va_A (mG ad ca g a) s.heap.size) = A at hD ⊢
  have hA : ∀ q : Nat, s.heap.size ≤ q → A q := fun q h => by rw [← hAe]; exact Or.inr h
  have hS : va_S A s.heap s.heap [] := va_S.rf
  have hP : va_P (dC, dI) vwCl (mG ad ca g a) s.heap := hP
  have haA : ∀ j, j ∉ ([63] : List Nat) → a j = a j := fun _ _ => rfl
  have hl := lv_entry ([.ref (ad 0), .int (iI p1), .int (iI p2), .int (iI p3)]) (n := 5) (Nat.le_of_ble_eq_true rfl)
  rw [lg_entry_eq]
  generalize (lg_sl ([.ref (ad 0), .int (iI p1), .int (iI p2), .int (iI p3)]) ++ List.replicate (5 - (lg_sl ([.ref (ad 0), .int (iI p1), .int (iI p2), .int (iI p3)])).length) Slot.unset).toArray = ls at hl ⊢
  have hl : lv_has ls 5 [(0, .ref (ad 0)), (1, .int (iI p1)), (2, .int (iI p2)), (3, .int (iI p3))] := hl
  generalize hQ : MQ below (va_Qi (fun (r : Int32) (u : (Nat → Int) × (Nat → Int → Int)) => ∃ z : Int, r = iI z ∧ (u.1 = g) ∧ (mI u.1 u.2) ∧ (∀ j, j ∉ ([63] : List Nat) → u.2 j = a j) ∧ (rg z)) (fun u t => va_P (dC, dI) vwCl (mG ad ca u.1 u.2) t.heap ∧ va_K (dC, dI) vwCl (mT ca) t ∧ va_D A (mG ad ca u.1 u.2)) A) ([.ref (ad 0), .int (iI p1), .int (iI p2), .int (iI p3)] : List Value).toArray s 0 0 A = Q
  suffices ST : ∀ (H : Heap) (locs : List Loc), va_P (dC, dI) vwCl (mG ad ca g a) H → va_S A s.heap H locs → W p l e ({ frames := 3, cells := 0, slots := 0, locals := 69 }) s m ([.ref (ad 0), .int (iI p1), .int (iI p2), .int (iI p3)] : List Value).toArray below meth c H locs 0 0 Q (F0 m 0 ls []) from ST _ _ hP hS
  clear hP hS
  intro H locs hP hS
  refine lv_aload_n hx hb dX13_tells_0 rfl (lv_at hl 0 rfl) ?_
  refine lv_iload_n hx hb dX13_tells_1 rfl (lv_at hl 1 rfl) ?_
  refine lv_iload_n hx hb dX13_tells_2 rfl (lv_at hl 2 rfl) ?_
  refine lv_iload_n hx hb dX13_tells_3 rfl (lv_at hl 3 rfl) ?_
  refine jc_i (va_runV (As := [.int (iI p1), .int (iI p2), .int (iI p3)]) (rest := []) ⟨hx, hb, hml, hown, hts⟩ (sX13_inForce l dC dI _ ad ca g a p1 p2 p3 hI (by omega) (by omega) (by omega) (by omega) hrSh) (cwV 3 hts (jgoodV m_244 m_365 m_366 m_503 m_148) rfl rfl rfl (by decide +kernel) ⟨(Nat.le_of_ble_eq_true rfl), (Nat.le_of_ble_eq_true rfl)⟩) ⟨jw_blind, va_recv hK hP (ci := 13) (q0 := 0) rfl rfl, fun U hU hW => ⟨rfl, jw_of hU hW hP hK hD⟩⟩ rfl rfl hl.1 rfl (lv_room (Nat.le_of_ble_eq_true rfl)) dX13_tells_4 ⟨(Nat.le_of_ble_eq_true rfl), (Nat.le_of_ble_eq_true rfl)⟩) hP hS hA (fun r_1 H locs w_2 hP hS => ?_)
  obtain ⟨z_3, rfl, h_4, h_5⟩ := w_2
  have b_6 : 0 ≤ g 18 ∧ g 18 ≤ 12 := hI.1 18
  refine lv_istore (lv' := [(4, .int (iI z_3)), (0, .ref (ad 0)), (1, .int (iI p1)), (2, .int (iI p2)), (3, .int (iI p3))]) hx hb dX13_tells_7 hl (by decide) rfl (fun ls hl => ?_)
  refine lv_iload hx hb dX13_tells_9 (lv_at hl 0 rfl) ?_
  refine lv_iconst (v := iI (-1)) hx hb dX13_tells_11 rfl ?_
  refine xr_icmp_ne (tgt := 22) hx hb dX13_tells_12 (by decide) (by omega) (by omega) (fun h_7 => ?_) (fun h_7 => ?_)
  · refine lv_aload_n hx hb dX13_tells_22 rfl (lv_at hl 1 rfl) ?_
    refine lv_iload hx hb dX13_tells_23 (lv_at hl 0 rfl) ?_
    refine lv_iload_n hx hb dX13_tells_25 rfl (lv_at hl 2 rfl) ?_
    refine jcg_i (va_runV (As := [.int (iI z_3), .int (iI p1)]) (rest := []) ⟨hx, hb, hml, hown, hts⟩ (sX13_reckoned l dC dI _ ad ca g a z_3 p1 hI (by omega) (by omega) (by omega) (by omega) (by omega) hrSh) (cwV 2 hts (jgoodV m_248 m_456 m_457 m_503 m_196) rfl rfl rfl (by decide +kernel) ⟨(Nat.le_of_ble_eq_true rfl), (Nat.le_of_ble_eq_true rfl)⟩) ⟨jw_blind, va_recv hK hP (ci := 13) (q0 := 0) rfl rfl, fun U hU hW => ⟨rfl, jw_of hU hW hP hK hD⟩⟩ rfl rfl hl.1 rfl (lv_room (Nat.le_of_ble_eq_true rfl)) dX13_tells_26 ⟨(Nat.le_of_ble_eq_true rfl), (Nat.le_of_ble_eq_true rfl)⟩) hD hS hA (fun r_8 u_14 H locs w_9 hP hK hD hS => ?_)
    obtain ⟨g_12, a_13⟩ := u_14
    obtain ⟨z_10, rfl, e_16, hI, hfr_15, h_11⟩ := w_9
    have hP : va_P (dC, dI) vwCl (mG ad ca g_12 a_13) H := hP
    have hD : va_D A (mG ad ca g_12 a_13) := hD
    have e_16 : g = g_12 := e_16.symm
    subst e_16
    have haA : ∀ j, j ∉ ([63] : List Nat) → a_13 j = a j := fun j h => (hfr_15 j (fun q => h (by first | exact q | (simp only [List.mem_cons, List.not_mem_nil, or_false] at q ⊢ <;> omega)))).trans (haA j h)
    rw [← hQ]
    exact W.iret (v := iI z_10) hx hb hr (fun t ht hW => ⟨⟨iI z_10, (g, a_13), rfl, ⟨z_10, rfl, rfl, hI, haA, by omega⟩, by rw [ht]; exact hP, va_K.moved hW.alike hK, hD⟩, hS.F ht⟩) hS.2.2 dX13_tells_29
  · refine lv_iload_n hx hb dX13_tells_15 rfl (lv_at hl 2 rfl) ?_
    refine jc_i (va_runS (As := [.int (iI p1)]) (rest := []) ⟨hx, hb, hml, hown, hts⟩ (sX13_without l dC dI _ p1 (by omega)) (va_cwS 1 hts (jgoodS m_247 m_500 m_503 m_218) rfl rfl rfl (by decide +kernel) ⟨(Nat.le_of_ble_eq_true rfl), (Nat.le_of_ble_eq_true rfl)⟩) ⟨jw_blind0, fun U hU hW => ⟨rfl, congrArg Array.size hU⟩⟩ rfl rfl hl.1 rfl (lv_room (Nat.le_of_ble_eq_true rfl)) dX13_tells_16 ⟨(Nat.le_of_ble_eq_true rfl), (Nat.le_of_ble_eq_true rfl)⟩) hP hS hA (fun r_17 H locs w_18 hP hS => ?_)
    obtain ⟨z_19, rfl, h_20⟩ := w_18
    refine lv_goto (tgt := 29) hx hb dX13_tells_19 (by decide) ?_
    rw [← hQ]
    exact W.iret (v := iI z_19) hx hb hr (fun t ht hW => ⟨⟨iI z_19, (g, a), rfl, ⟨z_19, rfl, rfl, hI, haA, by omega⟩, by rw [ht]; exact hP, va_K.moved hW.alike hK, hD⟩, hS.F ht⟩) hS.2.2 dX13_tells_29
set_option maxHeartbeats 2000000 in
set_option maxRecDepth 100000 in
theorem sX13_isSkipped (l : Launch) (dC : Nat → ClassId) (dI : Nat → Nat → Nat) (sz : Nat) (ad : Nat → Nat) (ca : Nat → ClassId) (g : Nat → Int) (a : Nat → Int → Int) (p1 : Int) (p2 : Int) (p3 : Int) (hI : mI g a) (q1 : rg p1) (q2 : rg p2) (q3 : rg p3) (k1 : 0 ≤ p1 ∧ p1 < 60) (k2 : 0 ≤ p2 ∧ p2 ≤ 12) : Met l yX13_isSkipped (jk yX13_isSkipped cX13_isSkipped 9 (some .boolean)) ({ frames := 0, cells := 0, slots := 0, locals := 0 }) (va_Pc [.ref (ad 0), .int (iI p1), .int (iI p2), .int (iI p3)] (jw_P (dC, dI) (mG ad ca g a) (mT ca) sz)) (va_Qi (fun (r : Int32) (_ : Unit) => ∃ z : Int, r = iI z ∧ (0 ≤ z ∧ z ≤ 1)) (fun _ _ => True) (va_A [] sz)) 0 0 (va_A [] sz) := by
  refine Met.ofW (cc := cX13_isSkipped) (maxL := 9) (ret := (some .boolean)) (by decide) rfl ?_
  intro p e s m args below meth c s₁ B hml hv
  obtain ⟨rfl, hsz, hP, hK, hD0⟩ := hv
  have hx := B.exec
  have hb := B.bytes
  have hr := B.returns
  have hts := atoms_spec (ws := (jk yX13_isSkipped cX13_isSkipped 9 (some .boolean))) B.pre
  have hj : ∀ w ∈ jw, w.before ([.ref (ad 0), .int (iI p1), .int (iI p2), .int (iI p3)] : List Value).toArray s = true := fun w h => hts w (jm h)
  have hown : s.vm.findClass RX13 = some m.cls := findClass_of_methodNamed B.named
  subst hsz
  have hD := hD0
  generalize hAe : (va_A [] s.heap.size) = A
  have hA : ∀ q : Nat, s.heap.size ≤ q → A q := fun q h => by rw [← hAe]; exact Or.inr h
  have hS : va_S A s.heap s.heap [] := va_S.rf
  have hP : va_P (dC, dI) vwCl (mG ad ca g a) s.heap := hP
  have hl := lv_entry ([.ref (ad 0), .int (iI p1), .int (iI p2), .int (iI p3)]) (n := 9) (Nat.le_of_ble_eq_true rfl)
  rw [lg_entry_eq]
  generalize (lg_sl ([.ref (ad 0), .int (iI p1), .int (iI p2), .int (iI p3)]) ++ List.replicate (9 - (lg_sl ([.ref (ad 0), .int (iI p1), .int (iI p2), .int (iI p3)])).length) Slot.unset).toArray = ls at hl ⊢
  have hl : lv_has ls 9 [(0, .ref (ad 0)), (1, .int (iI p1)), (2, .int (iI p2)), (3, .int (iI p3))] := hl
  generalize hQ : MQ below (va_Qi (fun (r : Int32) (_ : Unit) => ∃ z : Int, r = iI z ∧ (0 ≤ z ∧ z ≤ 1)) (fun _ _ => True) A) ([.ref (ad 0), .int (iI p1), .int (iI p2), .int (iI p3)] : List Value).toArray s 0 0 A = Q
  suffices ST : ∀ (H : Heap) (locs : List Loc), va_P (dC, dI) vwCl (mG ad ca g a) H → va_S A s.heap H locs → W p l e ({ frames := 0, cells := 0, slots := 0, locals := 0 }) s m ([.ref (ad 0), .int (iI p1), .int (iI p2), .int (iI p3)] : List Value).toArray below meth c H locs 0 0 Q (F0 m 0 ls []) from ST _ _ hP hS
  clear hP hS
  intro H locs hP hS
  refine lv_iconst (v := iI 0) hx hb dX13_isSkipped_0 rfl ?_
  refine lv_istore (lv' := [(4, .int (iI 0)), (0, .ref (ad 0)), (1, .int (iI p1)), (2, .int (iI p2)), (3, .int (iI p3))]) hx hb dX13_isSkipped_1 hl (by decide) rfl (fun ls hl => ?_)
  have L3 : ∀ (n3 : Nat) (v4_3 : Int) (H : Heap) (locs : List Loc) (ls : Array Slot), (0 ≤ v4_3 ∧ v4_3 ≤ 2147483647) → (0 < (n3 : Int) ∧ (g 26) - v4_3 < (n3 : Int)) → va_P (dC, dI) vwCl (mG ad ca g a) H → va_S A s.heap H locs → lv_has ls 9 [(4, .int (iI v4_3)), (0, .ref (ad 0)), (1, .int (iI p1)), (2, .int (iI p2)), (3, .int (iI p3))] → W p l e ({ frames := 0, cells := 0, slots := 0, locals := 0 }) s m ([.ref (ad 0), .int (iI p1), .int (iI p2), .int (iI p3)] : List Value).toArray below meth c H locs 0 0 Q (F0 m 3 ls []) := by
    intro n3
    induction n3 with
    | zero =>
      intro v4_3 H locs ls h_1 hm3 hP hS hl
      exfalso; omega
    | succ n3 ih3 =>
      intro v4_3 H locs ls h_2 hm3 hP hS hl
      refine lv_iload hx hb dX13_isSkipped_3 (lv_at hl 0 rfl) ?_
      refine lv_aload_n hx hb dX13_isSkipped_5 rfl (lv_at hl 1 rfl) ?_
      refine gf_forced hx hb hj hown hK hP hI dX13_isSkipped_6 (fun h_3 => ?_)
      refine xr_icmp_ge (tgt := 163) hx hb dX13_isSkipped_9 (by decide) (by omega) (by omega) (fun h_4 => ?_) (fun h_4 => ?_)
      · refine lv_iconst (v := iI 0) hx hb dX13_isSkipped_163 rfl ?_
        rw [← hQ]
        exact W.zret (v := iI 0) (ty := .boolean) hx hb hr (nb_bool (by omega) (by omega)) (fun t ht hW => ⟨⟨iI 0, (), rfl, ⟨0, rfl, by omega⟩, trivial⟩, hS.F ht⟩) hS.2.2 dX13_isSkipped_164
      · refine lv_aload_n hx hb dX13_isSkipped_12 rfl (lv_at hl 1 rfl) ?_
        refine gf_forcedFor hx hb hj hown hK hP dX13_isSkipped_13 ?_
        refine lv_iload hx hb dX13_isSkipped_16 (lv_at hl 0 rfl) ?_
        refine ld_forcedFor hx hb hK hP hI (by omega) (by omega) dX13_isSkipped_18 (fun h_5 => ?_)
        refine lv_iconst (v := iI (-1)) hx hb dX13_isSkipped_19 rfl ?_
        have J157 : ∀ (H : Heap) (locs : List Loc) (ls : Array Slot), va_P (dC, dI) vwCl (mG ad ca g a) H → va_S A s.heap H locs → lv_has ls 9 [(4, .int (iI v4_3)), (0, .ref (ad 0)), (1, .int (iI p1)), (2, .int (iI p2)), (3, .int (iI p3))] → W p l e ({ frames := 0, cells := 0, slots := 0, locals := 0 }) s m ([.ref (ad 0), .int (iI p1), .int (iI p2), .int (iI p3)] : List Value).toArray below meth c H locs 0 0 Q (F0 m 157 ls []) := by
          intro H locs ls hP hS hl
          refine lv_iinc (v := iI (v4_3 + 1)) (lv' := [(4, .int (iI (v4_3 + 1))), (0, .ref (ad 0)), (1, .int (iI p1)), (2, .int (iI p2)), (3, .int (iI p3))]) hx hb dX13_isSkipped_157 hl (k := 0) rfl (iI_add _ _) (by decide) rfl (fun ls hl => ?_)
          refine lv_goto (tgt := 3) hx hb dX13_isSkipped_160 (by decide) ?_
          exact ih3 (v4_3 + 1) H locs ls (by omega) (by omega) hP hS hl
        have J37 : ∀ (H : Heap) (locs : List Loc) (ls : Array Slot), va_P (dC, dI) vwCl (mG ad ca g a) H → va_S A s.heap H locs → lv_has ls 9 [(4, .int (iI v4_3)), (0, .ref (ad 0)), (1, .int (iI p1)), (2, .int (iI p2)), (3, .int (iI p3))] → W p l e ({ frames := 0, cells := 0, slots := 0, locals := 0 }) s m ([.ref (ad 0), .int (iI p1), .int (iI p2), .int (iI p3)] : List Value).toArray below meth c H locs 0 0 Q (F0 m 37 ls []) := by
          intro H locs ls hP hS hl
          refine lv_iconst (v := iI 0) hx hb dX13_isSkipped_37 rfl ?_
          refine lv_istore (lv' := [(5, .int (iI 0)), (4, .int (iI v4_3)), (0, .ref (ad 0)), (1, .int (iI p1)), (2, .int (iI p2)), (3, .int (iI p3))]) hx hb dX13_isSkipped_38 hl (by decide) rfl (fun ls hl => ?_)
          have L40 : ∀ (n40 : Nat) (v5_40 : Int) (H : Heap) (locs : List Loc) (ls : Array Slot), (0 ≤ v5_40 ∧ v5_40 ≤ 4) → (0 < (n40 : Int) ∧ (a 13 (a 16 v4_3)) - v5_40 < (n40 : Int)) → va_P (dC, dI) vwCl (mG ad ca g a) H → va_S A s.heap H locs → lv_has ls 9 [(5, .int (iI v5_40)), (4, .int (iI v4_3)), (0, .ref (ad 0)), (1, .int (iI p1)), (2, .int (iI p2)), (3, .int (iI p3))] → W p l e ({ frames := 0, cells := 0, slots := 0, locals := 0 }) s m ([.ref (ad 0), .int (iI p1), .int (iI p2), .int (iI p3)] : List Value).toArray below meth c H locs 0 0 Q (F0 m 40 ls []) := by
            intro n40
            induction n40 with
            | zero =>
              intro v5_40 H locs ls h_6 hm40 hP hS hl
              exfalso; omega
            | succ n40 ih40 =>
              intro v5_40 H locs ls h_7 hm40 hP hS hl
              refine lv_iload hx hb dX13_isSkipped_40 (lv_at hl 0 rfl) ?_
              refine lv_aload_n hx hb dX13_isSkipped_42 rfl (lv_at hl 2 rfl) ?_
              refine gf_sheetSkips hx hb hj hown hK hP dX13_isSkipped_43 ?_
              refine lv_aload_n hx hb dX13_isSkipped_46 rfl (lv_at hl 2 rfl) ?_
              refine gf_forcedSheet hx hb hj hown hK hP dX13_isSkipped_47 ?_
              refine lv_iload hx hb dX13_isSkipped_50 (lv_at hl 1 rfl) ?_
              refine ld_forcedSheet hx hb hK hP hI (by omega) (by omega) dX13_isSkipped_52 (fun h_8 => ?_)
              refine ld_sheetSkips hx hb hK hP hI (by omega) (by omega) dX13_isSkipped_53 (fun h_9 => ?_)
              refine xr_icmp_ge (tgt := 157) hx hb dX13_isSkipped_54 (by decide) (by omega) (by omega) (fun h_10 => ?_) (fun h_10 => ?_)
              · exact J157 H locs ls hP hS (lv_sub hl [1, 2, 3, 4, 5] rfl)
              · refine lv_iconst (v := iI 4) hx hb dX13_isSkipped_57 rfl ?_
                refine lv_aload_n hx hb dX13_isSkipped_58 rfl (lv_at hl 2 rfl) ?_
                refine gf_forcedSheet hx hb hj hown hK hP dX13_isSkipped_59 ?_
                refine lv_iload hx hb dX13_isSkipped_62 (lv_at hl 1 rfl) ?_
                refine ld_forcedSheet hx hb hK hP hI (by omega) (by omega) dX13_isSkipped_64 (fun h_11 => ?_)
                refine xr_mul hx hb dX13_isSkipped_65 ?_
                refine lv_iload hx hb dX13_isSkipped_66 (lv_at hl 0 rfl) ?_
                refine xr_add hx hb dX13_isSkipped_68 ?_
                refine lv_istore (lv' := [(6, .int (iI ((4 * (a 16 v4_3)) + v5_40))), (5, .int (iI v5_40)), (4, .int (iI v4_3)), (0, .ref (ad 0)), (1, .int (iI p1)), (2, .int (iI p2)), (3, .int (iI p3))]) hx hb dX13_isSkipped_69 hl (by decide) rfl (fun ls hl => ?_)
                refine lv_aload_n hx hb dX13_isSkipped_71 rfl (lv_at hl 3 rfl) ?_
                refine gf_skipSize hx hb hj hown hK hP dX13_isSkipped_72 ?_
                refine lv_iload hx hb dX13_isSkipped_75 (lv_at hl 0 rfl) ?_
                refine ld_skipSize hx hb hK hP hI (by omega) (by omega) dX13_isSkipped_77 (fun h_12 => ?_)
                refine lv_iload_n hx hb dX13_isSkipped_78 rfl (lv_at hl 5 rfl) ?_
                have J87 : ∀ (s0_87 : Int) (H : Heap) (locs : List Loc) (ls : Array Slot), (0 ≤ s0_87 ∧ s0_87 ≤ 1) → (s0_87 = 0 ∨ p2 ≤ 8) → va_P (dC, dI) vwCl (mG ad ca g a) H → va_S A s.heap H locs → lv_has ls 9 [(6, .int (iI ((4 * (a 16 v4_3)) + v5_40))), (5, .int (iI v5_40)), (4, .int (iI v4_3)), (0, .ref (ad 0)), (1, .int (iI p1)), (2, .int (iI p2)), (3, .int (iI p3))] → W p l e ({ frames := 0, cells := 0, slots := 0, locals := 0 }) s m ([.ref (ad 0), .int (iI p1), .int (iI p2), .int (iI p3)] : List Value).toArray below meth c H locs 0 0 Q (F0 m 87 ls [.int (iI s0_87)]) := by
                  intro s0_87 H locs ls h_13 h_14 hP hS hl
                  refine lv_istore (lv' := [(7, .int (iI s0_87)), (6, .int (iI ((4 * (a 16 v4_3)) + v5_40))), (5, .int (iI v5_40)), (4, .int (iI v4_3)), (0, .ref (ad 0)), (1, .int (iI p1)), (2, .int (iI p2)), (3, .int (iI p3))]) hx hb dX13_isSkipped_87 hl (by decide) rfl (fun ls hl => ?_)
                  refine lv_iconst (v := iI 0) hx hb dX13_isSkipped_89 rfl ?_
                  refine lv_istore (lv' := [(8, .int (iI 0)), (7, .int (iI s0_87)), (6, .int (iI ((4 * (a 16 v4_3)) + v5_40))), (5, .int (iI v5_40)), (4, .int (iI v4_3)), (0, .ref (ad 0)), (1, .int (iI p1)), (2, .int (iI p2)), (3, .int (iI p3))]) hx hb dX13_isSkipped_90 hl (by decide) rfl (fun ls hl => ?_)
                  have L92 : ∀ (n92 : Nat) (v8_92 v7_92 : Int) (H : Heap) (locs : List Loc) (ls : Array Slot), (0 ≤ v8_92 ∧ v8_92 ≤ 2147483647) → ((-2147483648) ≤ v7_92 ∧ v7_92 ≤ 1) → (v7_92 = 0 ∨ p2 ≤ 8) → (0 ≤ v7_92) → (0 < (n92 : Int) ∧ p2 - v8_92 < (n92 : Int)) → va_P (dC, dI) vwCl (mG ad ca g a) H → va_S A s.heap H locs → lv_has ls 9 [(8, .int (iI v8_92)), (7, .int (iI v7_92)), (6, .int (iI ((4 * (a 16 v4_3)) + v5_40))), (5, .int (iI v5_40)), (4, .int (iI v4_3)), (0, .ref (ad 0)), (1, .int (iI p1)), (2, .int (iI p2)), (3, .int (iI p3))] → W p l e ({ frames := 0, cells := 0, slots := 0, locals := 0 }) s m ([.ref (ad 0), .int (iI p1), .int (iI p2), .int (iI p3)] : List Value).toArray below meth c H locs 0 0 Q (F0 m 92 ls []) := by
                    intro n92
                    induction n92 with
                    | zero =>
                      intro v8_92 v7_92 H locs ls h_15 h_16 h_17 h_18 hm92 hP hS hl
                      exfalso; omega
                    | succ n92 ih92 =>
                      intro v8_92 v7_92 H locs ls h_19 h_20 h_21 h_22 hm92 hP hS hl
                      refine lv_iload hx hb dX13_isSkipped_92 (lv_at hl 0 rfl) ?_
                      refine lv_iload_n hx hb dX13_isSkipped_94 rfl (lv_at hl 7 rfl) ?_
                      have J144 : ∀ (H : Heap) (locs : List Loc) (ls : Array Slot), va_P (dC, dI) vwCl (mG ad ca g a) H → va_S A s.heap H locs → lv_has ls 9 [(8, .int (iI v8_92)), (7, .int (iI v7_92)), (6, .int (iI ((4 * (a 16 v4_3)) + v5_40))), (5, .int (iI v5_40)), (4, .int (iI v4_3)), (0, .ref (ad 0)), (1, .int (iI p1)), (2, .int (iI p2)), (3, .int (iI p3))] → W p l e ({ frames := 0, cells := 0, slots := 0, locals := 0 }) s m ([.ref (ad 0), .int (iI p1), .int (iI p2), .int (iI p3)] : List Value).toArray below meth c H locs 0 0 Q (F0 m 144 ls []) := by
                        intro H locs ls hP hS hl
                        refine lv_iload hx hb dX13_isSkipped_144 (lv_at hl 1 rfl) ?_
                        refine xr_if_eq (tgt := 151) hx hb dX13_isSkipped_146 (by decide) (by omega) (fun h_23 => ?_) (fun h_23 => ?_)
                        · refine lv_iinc (v := iI (v5_40 + 1)) (lv' := [(5, .int (iI (v5_40 + 1))), (8, .int (iI v8_92)), (7, .int (iI v7_92)), (6, .int (iI ((4 * (a 16 v4_3)) + v5_40))), (4, .int (iI v4_3)), (0, .ref (ad 0)), (1, .int (iI p1)), (2, .int (iI p2)), (3, .int (iI p3))]) hx hb dX13_isSkipped_151 hl (k := 3) rfl (iI_add _ _) (by decide) rfl (fun ls hl => ?_)
                          refine lv_goto (tgt := 40) hx hb dX13_isSkipped_154 (by decide) ?_
                          exact ih40 (v5_40 + 1) H locs ls (by omega) (by omega) hP hS (lv_sub hl [0, 4, 5, 6, 7, 8] rfl)
                        · refine lv_iconst (v := iI 1) hx hb dX13_isSkipped_149 rfl ?_
                          rw [← hQ]
                          exact W.zret (v := iI 1) (ty := .boolean) hx hb hr (nb_bool (by omega) (by omega)) (fun t ht hW => ⟨⟨iI 1, (), rfl, ⟨1, rfl, by omega⟩, trivial⟩, hS.F ht⟩) hS.2.2 dX13_isSkipped_150
                      refine xr_icmp_ge (tgt := 144) hx hb dX13_isSkipped_95 (by decide) (by omega) (by omega) (fun h_24 => ?_) (fun h_24 => ?_)
                      · exact J144 H locs ls hP hS hl
                      · refine lv_iload hx hb dX13_isSkipped_98 (lv_at hl 1 rfl) ?_
                        refine xr_if_eq (tgt := 144) hx hb dX13_isSkipped_100 (by decide) (by omega) (fun h_25 => ?_) (fun h_25 => ?_)
                        · exact J144 H locs ls hP hS hl
                        · refine lv_aload_n hx hb dX13_isSkipped_103 rfl (lv_at hl 5 rfl) ?_
                          refine gf_skipText hx hb hj hown hK hP dX13_isSkipped_104 ?_
                          refine lv_bipush (v := iI 8) hx hb dX13_isSkipped_107 rfl ?_
                          refine lv_iload hx hb dX13_isSkipped_109 (lv_at hl 2 rfl) ?_
                          refine xr_mul hx hb dX13_isSkipped_111 ?_
                          refine lv_iload hx hb dX13_isSkipped_112 (lv_at hl 0 rfl) ?_
                          refine xr_add hx hb dX13_isSkipped_114 ?_
                          refine ld_skipText hx hb hK hP hI (by omega) (by omega) dX13_isSkipped_115 (fun h_26 => ?_)
                          refine lv_aload_n hx hb dX13_isSkipped_116 rfl (lv_at hl 5 rfl) ?_
                          refine gf_heading hx hb hj hown hK hP dX13_isSkipped_117 ?_
                          refine lv_bipush (v := iI 12) hx hb dX13_isSkipped_120 rfl ?_
                          refine lv_iload_n hx hb dX13_isSkipped_122 rfl (lv_at hl 6 rfl) ?_
                          refine xr_mul hx hb dX13_isSkipped_123 ?_
                          refine lv_iload hx hb dX13_isSkipped_124 (lv_at hl 0 rfl) ?_
                          refine xr_add hx hb dX13_isSkipped_126 ?_
                          refine ld_heading hx hb hK hP hI (by omega) (by omega) dX13_isSkipped_127 (fun h_27 => ?_)
                          have J136 : ∀ (s0_136 : Int) (H : Heap) (locs : List Loc) (ls : Array Slot), (0 ≤ s0_136 ∧ s0_136 ≤ 1) → (s0_136 = 0 ∨ p2 ≤ 8) → va_P (dC, dI) vwCl (mG ad ca g a) H → va_S A s.heap H locs → lv_has ls 9 [(8, .int (iI v8_92)), (7, .int (iI v7_92)), (6, .int (iI ((4 * (a 16 v4_3)) + v5_40))), (5, .int (iI v5_40)), (4, .int (iI v4_3)), (0, .ref (ad 0)), (1, .int (iI p1)), (2, .int (iI p2)), (3, .int (iI p3))] → W p l e ({ frames := 0, cells := 0, slots := 0, locals := 0 }) s m ([.ref (ad 0), .int (iI p1), .int (iI p2), .int (iI p3)] : List Value).toArray below meth c H locs 0 0 Q (F0 m 136 ls [.int (iI s0_136)]) := by
                            intro s0_136 H locs ls h_28 h_29 hP hS hl
                            refine lv_istore (lv' := [(7, .int (iI s0_136)), (8, .int (iI v8_92)), (6, .int (iI ((4 * (a 16 v4_3)) + v5_40))), (5, .int (iI v5_40)), (4, .int (iI v4_3)), (0, .ref (ad 0)), (1, .int (iI p1)), (2, .int (iI p2)), (3, .int (iI p3))]) hx hb dX13_isSkipped_136 hl (by decide) rfl (fun ls hl => ?_)
                            refine lv_iinc (v := iI (v8_92 + 1)) (lv' := [(8, .int (iI (v8_92 + 1))), (7, .int (iI s0_136)), (6, .int (iI ((4 * (a 16 v4_3)) + v5_40))), (5, .int (iI v5_40)), (4, .int (iI v4_3)), (0, .ref (ad 0)), (1, .int (iI p1)), (2, .int (iI p2)), (3, .int (iI p3))]) hx hb dX13_isSkipped_138 hl (k := 1) rfl (iI_add _ _) (by decide) rfl (fun ls hl => ?_)
                            refine lv_goto (tgt := 92) hx hb dX13_isSkipped_141 (by decide) ?_
                            exact ih92 (v8_92 + 1) s0_136 H locs ls (by omega) (by omega) (by omega) (by omega) (by omega) hP hS hl
                          refine xr_icmp_ne (tgt := 135) hx hb dX13_isSkipped_128 (by decide) (by omega) (by omega) (fun h_30 => ?_) (fun h_30 => ?_)
                          · refine lv_iconst (v := iI 0) hx hb dX13_isSkipped_135 rfl ?_
                            exact J136 0 H locs ls (by omega) (by omega) hP hS hl
                          · refine lv_iconst (v := iI 1) hx hb dX13_isSkipped_131 rfl ?_
                            refine lv_goto (tgt := 136) hx hb dX13_isSkipped_132 (by decide) ?_
                            exact J136 1 H locs ls (by omega) (by omega) hP hS hl
                  exact L92 (((p2 - 0 : Int)).toNat + 1) 0 s0_87 H locs ls (by omega) (by omega) (by omega) (by omega) (by omega) hP hS hl
                refine xr_icmp_ne (tgt := 86) hx hb dX13_isSkipped_79 (by decide) (by omega) (by omega) (fun h_31 => ?_) (fun h_31 => ?_)
                · refine lv_iconst (v := iI 0) hx hb dX13_isSkipped_86 rfl ?_
                  exact J87 0 H locs ls (by omega) (by omega) hP hS hl
                · refine lv_iconst (v := iI 1) hx hb dX13_isSkipped_82 rfl ?_
                  refine lv_goto (tgt := 87) hx hb dX13_isSkipped_83 (by decide) ?_
                  exact J87 1 H locs ls (by omega) (by omega) hP hS hl
          exact L40 ((((a 13 (a 16 v4_3)) - 0 : Int)).toNat + 1) 0 H locs ls (by omega) (by omega) hP hS hl
        refine xr_icmp_eq (tgt := 37) hx hb dX13_isSkipped_20 (by decide) (by omega) (by omega) (fun h_32 => ?_) (fun h_32 => ?_)
        · exact J37 H locs ls hP hS hl
        · refine lv_aload_n hx hb dX13_isSkipped_23 rfl (lv_at hl 1 rfl) ?_
          refine gf_forcedFor hx hb hj hown hK hP dX13_isSkipped_24 ?_
          refine lv_iload hx hb dX13_isSkipped_27 (lv_at hl 0 rfl) ?_
          refine ld_forcedFor hx hb hK hP hI (by omega) (by omega) dX13_isSkipped_29 (fun h_33 => ?_)
          refine lv_iload_n hx hb dX13_isSkipped_30 rfl (lv_at hl 4 rfl) ?_
          refine xr_icmp_eq (tgt := 37) hx hb dX13_isSkipped_31 (by decide) (by omega) (by omega) (fun h_34 => ?_) (fun h_34 => ?_)
          · exact J37 H locs ls hP hS hl
          · refine lv_goto (tgt := 157) hx hb dX13_isSkipped_34 (by decide) ?_
            exact J157 H locs ls hP hS hl
  exact L3 ((((g 26) - 0 : Int)).toNat + 1) 0 H locs ls (by omega) (by omega) hP hS hl
