set_option maxHeartbeats 2000000 in
set_option maxRecDepth 100000 in
theorem sX13_of (l : Launch) (dC : Nat → ClassId) (dI : Nat → Nat → Nat) (sz : Nat) (p1 : Int) (p2 : Int) (p3 : Int) (q1 : rg p1) (q2 : rg p2) (q3 : rg p3) : Met l yX13_of (jk yX13_of cX13_of 3 (some .int)) ({ frames := 1, cells := 0, slots := 0, locals := 21 }) (va_Pc [.int (iI p1), .int (iI p2), .int (iI p3)] (fun U => U.heap.size = sz)) (va_Qi (fun (r : Int32) (_ : Unit) => ∃ z : Int, r = iI z ∧ (rg z)) (fun _ _ => True) (va_A [] sz)) 0 0 (va_A [] sz) := by
  refine Met.ofW (cc := cX13_of) (maxL := 3) (ret := (some .int)) (by decide) rfl ?_
  intro p e s m args below meth c s₁ B hml hv
  obtain ⟨rfl, hsz⟩ := hv
  have hx := B.exec
  have hb := B.bytes
  have hr := B.returns
  have hts := atoms_spec (ws := (jk yX13_of cX13_of 3 (some .int))) B.pre
  have hj : ∀ w ∈ jw, w.before ([.int (iI p1), .int (iI p2), .int (iI p3)] : List Value).toArray s = true := fun w h => hts w (jm h)
  have hown : s.vm.findClass RX13 = some m.cls := findClass_of_methodNamed B.named
  subst hsz
  have hP : va_P (dC, dI) vwCl [] s.heap := fun k q h => by simp at h
  generalize hAe : (va_A [] s.heap.size) = A
  have hA : ∀ q : Nat, s.heap.size ≤ q → A q := fun q h => by rw [← hAe]; exact Or.inr h
  have hS : va_S A s.heap s.heap [] := va_S.rf
  have hl := lv_entry ([.int (iI p1), .int (iI p2), .int (iI p3)]) (n := 3) (Nat.le_of_ble_eq_true rfl)
  rw [lg_entry_eq]
  generalize (lg_sl ([.int (iI p1), .int (iI p2), .int (iI p3)]) ++ List.replicate (3 - (lg_sl ([.int (iI p1), .int (iI p2), .int (iI p3)])).length) Slot.unset).toArray = ls at hl ⊢
  have hl : lv_has ls 3 [(0, .int (iI p1)), (1, .int (iI p2)), (2, .int (iI p3))] := hl
  generalize hQ : MQ below (va_Qi (fun (r : Int32) (_ : Unit) => ∃ z : Int, r = iI z ∧ (rg z)) (fun _ _ => True) A) ([.int (iI p1), .int (iI p2), .int (iI p3)] : List Value).toArray s 0 0 A = Q
  suffices ST : ∀ (H : Heap) (locs : List Loc), va_P (dC, dI) vwCl [] H → va_S A s.heap H locs → W p l e ({ frames := 1, cells := 0, slots := 0, locals := 21 }) s m ([.int (iI p1), .int (iI p2), .int (iI p3)] : List Value).toArray below meth c H locs 0 0 Q (F0 m 0 ls []) from ST _ _ hP hS
  clear hP hS
  intro H locs hP hS
  refine lv_iload_n hx hb dX13_of_0 rfl (lv_at hl 0 rfl) ?_
  rcases (show (p1 < 2 ∨ 9 < p1) ∨ p1 = 2 ∨ p1 = 3 ∨ p1 = 4 ∨ p1 = 5 ∨ p1 = 6 ∨ p1 = 7 ∨ p1 = 8 ∨ p1 = 9 by omega) with h_1 | h_1 | h_1 | h_1 | h_1 | h_1 | h_1 | h_1 | h_1
  · refine lv_tableOut (tgt := 133) hx hb dX13_of_1 (by rw [iI_toInt (by omega)]; omega) (by decide) ?_
    refine lv_iload_n hx hb dX13_of_133 rfl (lv_at hl 1 rfl) ?_
    refine lv_iload_n hx hb dX13_of_134 rfl (lv_at hl 2 rfl) ?_
    refine xr_add hx hb dX13_of_135 ?_
    refine xr_kept (fun z_2 h_3 h_4 => ?_)
    refine xr_if_le (tgt := 143) hx hb dX13_of_136 (by decide) (by omega) (fun h_5 => ?_) (fun h_5 => ?_)
    · refine lv_iconst (v := iI 0) hx hb dX13_of_143 rfl ?_
      rw [← hQ]
      exact W.iret (v := iI 0) hx hb hr (fun t ht hW => ⟨⟨iI 0, (), rfl, ⟨0, rfl, by omega⟩, trivial⟩, hS.F ht⟩) hS.2.2 dX13_of_144
    · refine lv_iconst (v := iI 1) hx hb dX13_of_139 rfl ?_
      refine lv_goto (tgt := 144) hx hb dX13_of_140 (by decide) ?_
      rw [← hQ]
      exact W.iret (v := iI 1) hx hb hr (fun t ht hW => ⟨⟨iI 1, (), rfl, ⟨1, rfl, by omega⟩, trivial⟩, hS.F ht⟩) hS.2.2 dX13_of_144
  · refine jtab_in (v := iI 2) (off := 47) (tgt := 48) hx hb dX13_of_1 (by rw [h_1]) (by decide) (by decide) (by decide) (by decide) ?_
    refine lv_iload_n hx hb dX13_of_48 rfl (lv_at hl 1 rfl) ?_
    refine lv_i2l (v := (iI p2).toInt64) hx hb dX13_of_49 rfl ?_
    refine lv_iload_n hx hb dX13_of_50 rfl (lv_at hl 2 rfl) ?_
    refine lv_i2l (v := (iI p3).toInt64) hx hb dX13_of_51 rfl ?_
    refine lv_ladd hx hb dX13_of_52 ?_
    refine jc_i (va_runS (As := [.long (((iI p2).toInt64) + ((iI p3).toInt64))]) (rest := []) ⟨hx, hb, hml, hown, hts⟩ (sX13_near l dC dI _ (((iI p2).toInt64) + ((iI p3).toInt64)) ) (va_cwS 1 hts (jgoodS m_246 m_430 m_503 m_182) rfl rfl rfl (by decide +kernel) ⟨(Nat.le_of_ble_eq_true rfl), (Nat.le_of_ble_eq_true rfl)⟩) ⟨jw_blind0, fun U hU hW => ⟨rfl, congrArg Array.size hU⟩⟩ rfl rfl hl.1 rfl (lv_room (Nat.le_of_ble_eq_true rfl)) dX13_of_53 ⟨(Nat.le_of_ble_eq_true rfl), (Nat.le_of_ble_eq_true rfl)⟩) hP hS hA (fun r_6 H locs w_7 hP hS => ?_)
    obtain ⟨z_8, rfl, h_9⟩ := w_7
    rw [← hQ]
    exact W.iret (v := iI z_8) hx hb hr (fun t ht hW => ⟨⟨iI z_8, (), rfl, ⟨z_8, rfl, by omega⟩, trivial⟩, hS.F ht⟩) hS.2.2 dX13_of_56
  · refine jtab_in (v := iI 3) (off := 56) (tgt := 57) hx hb dX13_of_1 (by rw [h_1]) (by decide) (by decide) (by decide) (by decide) ?_
    refine lv_iload_n hx hb dX13_of_57 rfl (lv_at hl 1 rfl) ?_
    refine lv_i2l (v := (iI p2).toInt64) hx hb dX13_of_58 rfl ?_
    refine lv_iload_n hx hb dX13_of_59 rfl (lv_at hl 2 rfl) ?_
    refine lv_i2l (v := (iI p3).toInt64) hx hb dX13_of_60 rfl ?_
    refine lv_lsub hx hb dX13_of_61 ?_
    refine jc_i (va_runS (As := [.long (((iI p2).toInt64) - ((iI p3).toInt64))]) (rest := []) ⟨hx, hb, hml, hown, hts⟩ (sX13_near l dC dI _ (((iI p2).toInt64) - ((iI p3).toInt64)) ) (va_cwS 1 hts (jgoodS m_246 m_430 m_503 m_182) rfl rfl rfl (by decide +kernel) ⟨(Nat.le_of_ble_eq_true rfl), (Nat.le_of_ble_eq_true rfl)⟩) ⟨jw_blind0, fun U hU hW => ⟨rfl, congrArg Array.size hU⟩⟩ rfl rfl hl.1 rfl (lv_room (Nat.le_of_ble_eq_true rfl)) dX13_of_62 ⟨(Nat.le_of_ble_eq_true rfl), (Nat.le_of_ble_eq_true rfl)⟩) hP hS hA (fun r_10 H locs w_11 hP hS => ?_)
    obtain ⟨z_12, rfl, h_13⟩ := w_11
    rw [← hQ]
    exact W.iret (v := iI z_12) hx hb hr (fun t ht hW => ⟨⟨iI z_12, (), rfl, ⟨z_12, rfl, by omega⟩, trivial⟩, hS.F ht⟩) hS.2.2 dX13_of_65
  · refine jtab_in (v := iI 4) (off := 65) (tgt := 66) hx hb dX13_of_1 (by rw [h_1]) (by decide) (by decide) (by decide) (by decide) ?_
    refine lv_iload_n hx hb dX13_of_66 rfl (lv_at hl 1 rfl) ?_
    refine lv_i2l (v := (iI p2).toInt64) hx hb dX13_of_67 rfl ?_
    refine lv_iload_n hx hb dX13_of_68 rfl (lv_at hl 2 rfl) ?_
    refine lv_i2l (v := (iI p3).toInt64) hx hb dX13_of_69 rfl ?_
    refine lv_lmul hx hb dX13_of_70 ?_
    refine jc_i (va_runS (As := [.long (((iI p2).toInt64) * ((iI p3).toInt64))]) (rest := []) ⟨hx, hb, hml, hown, hts⟩ (sX13_near l dC dI _ (((iI p2).toInt64) * ((iI p3).toInt64)) ) (va_cwS 1 hts (jgoodS m_246 m_430 m_503 m_182) rfl rfl rfl (by decide +kernel) ⟨(Nat.le_of_ble_eq_true rfl), (Nat.le_of_ble_eq_true rfl)⟩) ⟨jw_blind0, fun U hU hW => ⟨rfl, congrArg Array.size hU⟩⟩ rfl rfl hl.1 rfl (lv_room (Nat.le_of_ble_eq_true rfl)) dX13_of_71 ⟨(Nat.le_of_ble_eq_true rfl), (Nat.le_of_ble_eq_true rfl)⟩) hP hS hA (fun r_14 H locs w_15 hP hS => ?_)
    obtain ⟨z_16, rfl, h_17⟩ := w_15
    rw [← hQ]
    exact W.iret (v := iI z_16) hx hb hr (fun t ht hW => ⟨⟨iI z_16, (), rfl, ⟨z_16, rfl, by omega⟩, trivial⟩, hS.F ht⟩) hS.2.2 dX13_of_74
  · refine jtab_in (v := iI 5) (off := 74) (tgt := 75) hx hb dX13_of_1 (by rw [h_1]) (by decide) (by decide) (by decide) (by decide) ?_
    refine lv_iload_n hx hb dX13_of_75 rfl (lv_at hl 2 rfl) ?_
    refine xr_if_ne (tgt := 83) hx hb dX13_of_76 (by decide) (by omega) (fun h_18 => ?_) (fun h_18 => ?_)
    · refine lv_iload_n hx hb dX13_of_83 rfl (lv_at hl 1 rfl) ?_
      refine lv_iload_n hx hb dX13_of_84 rfl (lv_at hl 2 rfl) ?_
      refine xr_divA hx hb dX13_of_85 (by omega) (by omega) (fun z_19 h_20 => ?_)
      rw [← hQ]
      exact W.iret (v := iI z_19) hx hb hr (fun t ht hW => ⟨⟨iI z_19, (), rfl, ⟨z_19, rfl, by omega⟩, trivial⟩, hS.F ht⟩) hS.2.2 dX13_of_86
    · refine lv_iconst (v := iI 0) hx hb dX13_of_79 rfl ?_
      refine lv_goto (tgt := 86) hx hb dX13_of_80 (by decide) ?_
      rw [← hQ]
      exact W.iret (v := iI 0) hx hb hr (fun t ht hW => ⟨⟨iI 0, (), rfl, ⟨0, rfl, by omega⟩, trivial⟩, hS.F ht⟩) hS.2.2 dX13_of_86
  · refine jtab_in (v := iI 6) (off := 86) (tgt := 87) hx hb dX13_of_1 (by rw [h_1]) (by decide) (by decide) (by decide) (by decide) ?_
    refine lv_iload_n hx hb dX13_of_87 rfl (lv_at hl 1 rfl) ?_
    refine lv_iload_n hx hb dX13_of_88 rfl (lv_at hl 2 rfl) ?_
    refine xr_icmp_ge (tgt := 96) hx hb dX13_of_89 (by decide) (by omega) (by omega) (fun h_21 => ?_) (fun h_21 => ?_)
    · refine lv_iconst (v := iI 0) hx hb dX13_of_96 rfl ?_
      rw [← hQ]
      exact W.iret (v := iI 0) hx hb hr (fun t ht hW => ⟨⟨iI 0, (), rfl, ⟨0, rfl, by omega⟩, trivial⟩, hS.F ht⟩) hS.2.2 dX13_of_97
    · refine lv_iconst (v := iI 1) hx hb dX13_of_92 rfl ?_
      refine lv_goto (tgt := 97) hx hb dX13_of_93 (by decide) ?_
      rw [← hQ]
      exact W.iret (v := iI 1) hx hb hr (fun t ht hW => ⟨⟨iI 1, (), rfl, ⟨1, rfl, by omega⟩, trivial⟩, hS.F ht⟩) hS.2.2 dX13_of_97
  · refine jtab_in (v := iI 7) (off := 97) (tgt := 98) hx hb dX13_of_1 (by rw [h_1]) (by decide) (by decide) (by decide) (by decide) ?_
    refine lv_iload_n hx hb dX13_of_98 rfl (lv_at hl 1 rfl) ?_
    refine lv_iload_n hx hb dX13_of_99 rfl (lv_at hl 2 rfl) ?_
    refine xr_icmp_le (tgt := 107) hx hb dX13_of_100 (by decide) (by omega) (by omega) (fun h_22 => ?_) (fun h_22 => ?_)
    · refine lv_iconst (v := iI 0) hx hb dX13_of_107 rfl ?_
      rw [← hQ]
      exact W.iret (v := iI 0) hx hb hr (fun t ht hW => ⟨⟨iI 0, (), rfl, ⟨0, rfl, by omega⟩, trivial⟩, hS.F ht⟩) hS.2.2 dX13_of_108
    · refine lv_iconst (v := iI 1) hx hb dX13_of_103 rfl ?_
      refine lv_goto (tgt := 108) hx hb dX13_of_104 (by decide) ?_
      rw [← hQ]
      exact W.iret (v := iI 1) hx hb hr (fun t ht hW => ⟨⟨iI 1, (), rfl, ⟨1, rfl, by omega⟩, trivial⟩, hS.F ht⟩) hS.2.2 dX13_of_108
  · refine jtab_in (v := iI 8) (off := 108) (tgt := 109) hx hb dX13_of_1 (by rw [h_1]) (by decide) (by decide) (by decide) (by decide) ?_
    refine lv_iload_n hx hb dX13_of_109 rfl (lv_at hl 1 rfl) ?_
    refine lv_iload_n hx hb dX13_of_110 rfl (lv_at hl 2 rfl) ?_
    refine xr_icmp_ne (tgt := 118) hx hb dX13_of_111 (by decide) (by omega) (by omega) (fun h_23 => ?_) (fun h_23 => ?_)
    · refine lv_iconst (v := iI 0) hx hb dX13_of_118 rfl ?_
      rw [← hQ]
      exact W.iret (v := iI 0) hx hb hr (fun t ht hW => ⟨⟨iI 0, (), rfl, ⟨0, rfl, by omega⟩, trivial⟩, hS.F ht⟩) hS.2.2 dX13_of_119
    · refine lv_iconst (v := iI 1) hx hb dX13_of_114 rfl ?_
      refine lv_goto (tgt := 119) hx hb dX13_of_115 (by decide) ?_
      rw [← hQ]
      exact W.iret (v := iI 1) hx hb hr (fun t ht hW => ⟨⟨iI 1, (), rfl, ⟨1, rfl, by omega⟩, trivial⟩, hS.F ht⟩) hS.2.2 dX13_of_119
  · refine jtab_in (v := iI 9) (off := 119) (tgt := 120) hx hb dX13_of_1 (by rw [h_1]) (by decide) (by decide) (by decide) (by decide) ?_
    refine lv_iload_n hx hb dX13_of_120 rfl (lv_at hl 1 rfl) ?_
    refine lv_iload_n hx hb dX13_of_121 rfl (lv_at hl 2 rfl) ?_
    refine xr_add hx hb dX13_of_122 ?_
    refine xr_kept (fun z_24 h_25 h_26 => ?_)
    refine lv_iconst (v := iI 2) hx hb dX13_of_123 rfl ?_
    refine xr_icmp_ne (tgt := 131) hx hb dX13_of_124 (by decide) (by omega) (by omega) (fun h_27 => ?_) (fun h_27 => ?_)
    · refine lv_iconst (v := iI 0) hx hb dX13_of_131 rfl ?_
      rw [← hQ]
      exact W.iret (v := iI 0) hx hb hr (fun t ht hW => ⟨⟨iI 0, (), rfl, ⟨0, rfl, by omega⟩, trivial⟩, hS.F ht⟩) hS.2.2 dX13_of_132
    · refine lv_iconst (v := iI 1) hx hb dX13_of_127 rfl ?_
      refine lv_goto (tgt := 132) hx hb dX13_of_128 (by decide) ?_
      rw [← hQ]
      exact W.iret (v := iI 1) hx hb hr (fun t ht hW => ⟨⟨iI 1, (), rfl, ⟨1, rfl, by omega⟩, trivial⟩, hS.F ht⟩) hS.2.2 dX13_of_132
set_option maxHeartbeats 2000000 in
set_option maxRecDepth 100000 in
theorem sX13_reckoned (l : Launch) (dC : Nat → ClassId) (dI : Nat → Nat → Nat) (sz : Nat) (ad : Nat → Nat) (ca : Nat → ClassId) (g : Nat → Int) (a : Nat → Int → Int) (p1 : Int) (p2 : Int) (hI : mI g a) (q1 : rg p1) (q2 : rg p2) (k1 : 0 ≤ p1 ∧ p1 ≤ 11) (k2 : 0 ≤ p2 ∧ p2 ≤ 13) : Met l yX13_reckoned (jk yX13_reckoned cX13_reckoned 7 (some .int)) ({ frames := 2, cells := 0, slots := 0, locals := 60 }) (va_Pc [.ref (ad 0), .int (iI p1), .int (iI p2)] (jw_P (dC, dI) (mG ad ca g a) (mT ca) sz)) (va_Qi (fun (r : Int32) (u : (Nat → Int) × (Nat → Int → Int)) => ∃ z : Int, r = iI z ∧ (u.1 = g) ∧ (mI u.1 u.2) ∧ (∀ j, j ∉ ([63] : List Nat) → u.2 j = a j) ∧ (rg z)) (fun u t => va_P (dC, dI) vwCl (mG ad ca u.1 u.2) t.heap ∧ va_K (dC, dI) vwCl (mT ca) t ∧ va_D (va_A (mG ad ca g a) sz) (mG ad ca u.1 u.2)) (va_A (mG ad ca g a) sz)) 0 0 (va_A (mG ad ca g a) sz) := by
  sorry
set_option maxHeartbeats 2000000 in
set_option maxRecDepth 100000 in
theorem sX13_tells (l : Launch) (dC : Nat → ClassId) (dI : Nat → Nat → Nat) (sz : Nat) (ad : Nat → Nat) (ca : Nat → ClassId) (g : Nat → Int) (a : Nat → Int → Int) (p1 : Int) (p2 : Int) (p3 : Int) (hI : mI g a) (q1 : rg p1) (q2 : rg p2) (q3 : rg p3) (k1 : 0 ≤ p1 ∧ p1 ≤ 13) : Met l yX13_tells (jk yX13_tells cX13_tells 5 (some .int)) ({ frames := 3, cells := 0, slots := 0, locals := 86 }) (va_Pc [.ref (ad 0), .int (iI p1), .int (iI p2), .int (iI p3)] (jw_P (dC, dI) (mG ad ca g a) (mT ca) sz)) (va_Qi (fun (r : Int32) (u : (Nat → Int) × (Nat → Int → Int)) => ∃ z : Int, r = iI z ∧ (u.1 = g) ∧ (mI u.1 u.2) ∧ (∀ j, j ∉ ([63] : List Nat) → u.2 j = a j) ∧ (rg z)) (fun u t => va_P (dC, dI) vwCl (mG ad ca u.1 u.2) t.heap ∧ va_K (dC, dI) vwCl (mT ca) t ∧ va_D (va_A (mG ad ca g a) sz) (mG ad ca u.1 u.2)) (va_A (mG ad ca g a) sz)) 0 0 (va_A (mG ad ca g a) sz) := by
  refine Met.ofW (cc := cX13_tells) (maxL := 5) (ret := (some .int)) (by decide) rfl ?_
  intro p e s m args below meth c s₁ B hml hv
  obtain ⟨rfl, hsz, hP, hK, hD0⟩ := hv
  have hx := B.exec
  have hb := B.bytes
  have hr := B.returns
  have hts := atoms_spec (ws := (jk yX13_tells cX13_tells 5 (some .int))) B.pre
  have hj : ∀ w ∈ jw, w.before ([.ref (ad 0), .int (iI p1), .int (iI p2), .int (iI p3)] : List Value).toArray s = true := fun w h => hts w (jm h)
  have hown : s.vm.findClass RX13 = some m.cls := findClass_of_methodNamed B.named
  subst hsz
  have hD := hD0.self (sz := s.heap.size)
  generalize hAe : (va_A (mG ad ca g a) s.heap.size) = A at hD ⊢
  have hA : ∀ q : Nat, s.heap.size ≤ q → A q := fun q h => by rw [← hAe]; exact Or.inr h
  have hS : va_S A s.heap s.heap [] := va_S.rf
  have hP : va_P (dC, dI) vwCl (mG ad ca g a) s.heap := hP
  have haA : ∀ j, j ∉ ([63] : List Nat) → a j = a j := fun _ _ => rfl
  have hl := lv_entry ([.ref (ad 0), .int (iI p1), .int (iI p2), .int (iI p3)]) (n := 5) (Nat.le_of_ble_eq_true rfl)
  rw [lg_entry_eq]
  generalize (lg_sl ([.ref (ad 0), .int (iI p1), .int (iI p2), .int (iI p3)]) ++ List.replicate (5 - (lg_sl ([.ref (ad 0), .int (iI p1), .int (iI p2), .int (iI p3)])).length) Slot.unset).toArray = ls at hl ⊢
  have hl : lv_has ls 5 [(0, .ref (ad 0)), (1, .int (iI p1)), (2, .int (iI p2)), (3, .int (iI p3))] := hl
  generalize hQ : MQ below (va_Qi (fun (r : Int32) (u : (Nat → Int) × (Nat → Int → Int)) => ∃ z : Int, r = iI z ∧ (u.1 = g) ∧ (mI u.1 u.2) ∧ (∀ j, j ∉ ([63] : List Nat) → u.2 j = a j) ∧ (rg z)) (fun u t => va_P (dC, dI) vwCl (mG ad ca u.1 u.2) t.heap ∧ va_K (dC, dI) vwCl (mT ca) t ∧ va_D A (mG ad ca u.1 u.2)) A) ([.ref (ad 0), .int (iI p1), .int (iI p2), .int (iI p3)] : List Value).toArray s 0 0 A = Q
  suffices ST : ∀ (H : Heap) (locs : List Loc), va_P (dC, dI) vwCl (mG ad ca g a) H → va_S A s.heap H locs → W p l e ({ frames := 3, cells := 0, slots := 0, locals := 86 }) s m ([.ref (ad 0), .int (iI p1), .int (iI p2), .int (iI p3)] : List Value).toArray below meth c H locs 0 0 Q (F0 m 0 ls []) from ST _ _ hP hS
  clear hP hS
  intro H locs hP hS
  refine lv_aload_n hx hb dX13_tells_0 rfl (lv_at hl 0 rfl) ?_
  refine lv_iload_n hx hb dX13_tells_1 rfl (lv_at hl 1 rfl) ?_
  refine lv_iload_n hx hb dX13_tells_2 rfl (lv_at hl 2 rfl) ?_
  refine lv_iload_n hx hb dX13_tells_3 rfl (lv_at hl 3 rfl) ?_
  refine jc_i (va_runV (As := [.int (iI p1), .int (iI p2), .int (iI p3)]) (rest := []) ⟨hx, hb, hml, hown, hts⟩ (sX13_inForce l dC dI _ ad ca g a p1 p2 p3 hI (by omega) (by omega) (by omega) (by omega)) (cwV 3 hts (jgoodV m_244 m_365 m_366 m_503 m_148) rfl rfl rfl (by decide +kernel) ⟨(Nat.le_of_ble_eq_true rfl), (Nat.le_of_ble_eq_true rfl)⟩) ⟨jw_blind, va_recv hK hP (ci := 13) (q0 := 0) rfl rfl, fun U hU hW => ⟨rfl, jw_of hU hW hP hK hD⟩⟩ rfl rfl hl.1 rfl (lv_room (Nat.le_of_ble_eq_true rfl)) dX13_tells_4 ⟨(Nat.le_of_ble_eq_true rfl), (Nat.le_of_ble_eq_true rfl)⟩) hP hS hA (fun r_1 H locs w_2 hP hS => ?_)
  obtain ⟨z_3, rfl, h_4⟩ := w_2
  refine lv_istore (lv' := [(4, .int (iI z_3)), (0, .ref (ad 0)), (1, .int (iI p1)), (2, .int (iI p2)), (3, .int (iI p3))]) hx hb dX13_tells_7 hl (by decide) rfl (fun ls hl => ?_)
  refine lv_iload hx hb dX13_tells_9 (lv_at hl 0 rfl) ?_
  refine lv_iconst (v := iI (-1)) hx hb dX13_tells_11 rfl ?_
  refine xr_icmp_ne (tgt := 22) hx hb dX13_tells_12 (by decide) (by omega) (by omega) (fun h_5 => ?_) (fun h_5 => ?_)
  · refine lv_aload_n hx hb dX13_tells_22 rfl (lv_at hl 1 rfl) ?_
    refine lv_iload hx hb dX13_tells_23 (lv_at hl 0 rfl) ?_
    refine lv_iload_n hx hb dX13_tells_25 rfl (lv_at hl 2 rfl) ?_
    refine jcg_i (va_runV (As := [.int (iI z_3), .int (iI p1)]) (rest := []) ⟨hx, hb, hml, hown, hts⟩ (sX13_reckoned l dC dI _ ad ca g a z_3 p1 hI (by omega) (by omega) (by omega) (by omega)) (cwV 2 hts (jgoodV m_248 m_456 m_457 m_503 m_196) rfl rfl rfl (by decide +kernel) ⟨(Nat.le_of_ble_eq_true rfl), (Nat.le_of_ble_eq_true rfl)⟩) ⟨jw_blind, va_recv hK hP (ci := 13) (q0 := 0) rfl rfl, fun U hU hW => ⟨rfl, jw_of hU hW hP hK hD⟩⟩ rfl rfl hl.1 rfl (lv_room (Nat.le_of_ble_eq_true rfl)) dX13_tells_26 ⟨(Nat.le_of_ble_eq_true rfl), (Nat.le_of_ble_eq_true rfl)⟩) hD hS hA (fun r_6 u_12 H locs w_7 hP hK hD hS => ?_)
    obtain ⟨g_10, a_11⟩ := u_12
    obtain ⟨z_8, rfl, e_14, hI, hfr_13, h_9⟩ := w_7
    have hP : va_P (dC, dI) vwCl (mG ad ca g_10 a_11) H := hP
    have hD : va_D A (mG ad ca g_10 a_11) := hD
    have e_14 : g = g_10 := e_14.symm
    subst e_14
    have haA : ∀ j, j ∉ ([63] : List Nat) → a_11 j = a j := fun j h => (hfr_13 j (fun q => h (by first | exact q | (simp only [List.mem_cons, List.not_mem_nil, or_false] at q ⊢ <;> omega)))).trans (haA j h)
    rw [← hQ]
    exact W.iret (v := iI z_8) hx hb hr (fun t ht hW => ⟨⟨iI z_8, (g, a_11), rfl, ⟨z_8, rfl, rfl, hI, haA, by omega⟩, by rw [ht]; exact hP, va_K.moved hW.alike hK, hD⟩, hS.F ht⟩) hS.2.2 dX13_tells_29
  · refine lv_iload_n hx hb dX13_tells_15 rfl (lv_at hl 2 rfl) ?_
    refine jc_i (va_runS (As := [.int (iI p1)]) (rest := []) ⟨hx, hb, hml, hown, hts⟩ (sX13_without l dC dI _ p1 (by omega)) (va_cwS 1 hts (jgoodS m_247 m_500 m_503 m_218) rfl rfl rfl (by decide +kernel) ⟨(Nat.le_of_ble_eq_true rfl), (Nat.le_of_ble_eq_true rfl)⟩) ⟨jw_blind0, fun U hU hW => ⟨rfl, congrArg Array.size hU⟩⟩ rfl rfl hl.1 rfl (lv_room (Nat.le_of_ble_eq_true rfl)) dX13_tells_16 ⟨(Nat.le_of_ble_eq_true rfl), (Nat.le_of_ble_eq_true rfl)⟩) hP hS hA (fun r_15 H locs w_16 hP hS => ?_)
    obtain ⟨z_17, rfl, h_18⟩ := w_16
    refine lv_goto (tgt := 29) hx hb dX13_tells_19 (by decide) ?_
    rw [← hQ]
    exact W.iret (v := iI z_17) hx hb hr (fun t ht hW => ⟨⟨iI z_17, (g, a), rfl, ⟨z_17, rfl, rfl, hI, haA, by omega⟩, by rw [ht]; exact hP, va_K.moved hW.alike hK, hD⟩, hS.F ht⟩) hS.2.2 dX13_tells_29
set_option maxHeartbeats 2000000 in
set_option maxRecDepth 100000 in
theorem sX13_isSkipped (l : Launch) (dC : Nat → ClassId) (dI : Nat → Nat → Nat) (sz : Nat) (ad : Nat → Nat) (ca : Nat → ClassId) (g : Nat → Int) (a : Nat → Int → Int) (p1 : Int) (p2 : Int) (p3 : Int) (hI : mI g a) (q1 : rg p1) (q2 : rg p2) (q3 : rg p3) (k1 : 0 ≤ p1 ∧ p1 < 60) (k2 : 0 ≤ p2 ∧ p2 ≤ 12) : Met l yX13_isSkipped (jk yX13_isSkipped cX13_isSkipped 9 (some .boolean)) ({ frames := 0, cells := 0, slots := 0, locals := 0 }) (va_Pc [.ref (ad 0), .int (iI p1), .int (iI p2), .int (iI p3)] (jw_P (dC, dI) (mG ad ca g a) (mT ca) sz)) (va_Qi (fun (r : Int32) (_ : Unit) => ∃ z : Int, r = iI z ∧ (0 ≤ z ∧ z ≤ 1)) (fun _ _ => True) (va_A [] sz)) 0 0 (va_A [] sz) := by
  refine Met.ofW (cc := cX13_isSkipped) (maxL := 9) (ret := (some .boolean)) (by decide) rfl ?_
  intro p e s m args below meth c s₁ B hml hv
  obtain ⟨rfl, hsz, hP, hK, hD0⟩ := hv
  have hx := B.exec
  have hb := B.bytes
  have hr := B.returns
  have hts := atoms_spec (ws := (jk yX13_isSkipped cX13_isSkipped 9 (some .boolean))) B.pre
  have hj : ∀ w ∈ jw, w.before ([.ref (ad 0), .int (iI p1), .int (iI p2), .int (iI p3)] : List Value).toArray s = true := fun w h => hts w (jm h)
  have hown : s.vm.findClass RX13 = some m.cls := findClass_of_methodNamed B.named
  subst hsz
  have hD := hD0
  generalize hAe : (va_A [] s.heap.size) = A
  have hA : ∀ q : Nat, s.heap.size ≤ q → A q := fun q h => by rw [← hAe]; exact Or.inr h
  have hS : va_S A s.heap s.heap [] := va_S.rf
  have hP : va_P (dC, dI) vwCl (mG ad ca g a) s.heap := hP
  have hl := lv_entry ([.ref (ad 0), .int (iI p1), .int (iI p2), .int (iI p3)]) (n := 9) (Nat.le_of_ble_eq_true rfl)
  rw [lg_entry_eq]
  generalize (lg_sl ([.ref (ad 0), .int (iI p1), .int (iI p2), .int (iI p3)]) ++ List.replicate (9 - (lg_sl ([.ref (ad 0), .int (iI p1), .int (iI p2), .int (iI p3)])).length) Slot.unset).toArray = ls at hl ⊢
  have hl : lv_has ls 9 [(0, .ref (ad 0)), (1, .int (iI p1)), (2, .int (iI p2)), (3, .int (iI p3))] := hl
  generalize hQ : MQ below (va_Qi (fun (r : Int32) (_ : Unit) => ∃ z : Int, r = iI z ∧ (0 ≤ z ∧ z ≤ 1)) (fun _ _ => True) A) ([.ref (ad 0), .int (iI p1), .int (iI p2), .int (iI p3)] : List Value).toArray s 0 0 A = Q
  suffices ST : ∀ (H : Heap) (locs : List Loc), va_P (dC, dI) vwCl (mG ad ca g a) H → va_S A s.heap H locs → W p l e ({ frames := 0, cells := 0, slots := 0, locals := 0 }) s m ([.ref (ad 0), .int (iI p1), .int (iI p2), .int (iI p3)] : List Value).toArray below meth c H locs 0 0 Q (F0 m 0 ls []) from ST _ _ hP hS
  clear hP hS
  intro H locs hP hS
  refine lv_iconst (v := iI 0) hx hb dX13_isSkipped_0 rfl ?_
  refine lv_istore (lv' := [(4, .int (iI 0)), (0, .ref (ad 0)), (1, .int (iI p1)), (2, .int (iI p2)), (3, .int (iI p3))]) hx hb dX13_isSkipped_1 hl (by decide) rfl (fun ls hl => ?_)
  have L3 : ∀ (n3 : Nat) (v4_3 : Int) (H : Heap) (locs : List Loc) (ls : Array Slot), (0 ≤ v4_3 ∧ v4_3 ≤ 2147483647) → (0 < (n3 : Int) ∧ (g 26) - v4_3 < (n3 : Int)) → va_P (dC, dI) vwCl (mG ad ca g a) H → va_S A s.heap H locs → lv_has ls 9 [(4, .int (iI v4_3)), (0, .ref (ad 0)), (1, .int (iI p1)), (2, .int (iI p2)), (3, .int (iI p3))] → W p l e ({ frames := 0, cells := 0, slots := 0, locals := 0 }) s m ([.ref (ad 0), .int (iI p1), .int (iI p2), .int (iI p3)] : List Value).toArray below meth c H locs 0 0 Q (F0 m 3 ls []) := by
    intro n3
    induction n3 with
    | zero =>
      intro v4_3 H locs ls h_1 hm3 hP hS hl
      exfalso; omega
    | succ n3 ih3 =>
      intro v4_3 H locs ls h_2 hm3 hP hS hl
      refine lv_iload hx hb dX13_isSkipped_3 (lv_at hl 0 rfl) ?_
      refine lv_aload_n hx hb dX13_isSkipped_5 rfl (lv_at hl 1 rfl) ?_
      refine gf_forced hx hb hj hown hK hP hI dX13_isSkipped_6 (fun h_3 => ?_)
      refine xr_icmp_ge (tgt := 163) hx hb dX13_isSkipped_9 (by decide) (by omega) (by omega) (fun h_4 => ?_) (fun h_4 => ?_)
      · refine lv_iconst (v := iI 0) hx hb dX13_isSkipped_163 rfl ?_
        rw [← hQ]
        exact W.zret (v := iI 0) (ty := .boolean) hx hb hr (nb_bool (by omega) (by omega)) (fun t ht hW => ⟨⟨iI 0, (), rfl, ⟨0, rfl, by omega⟩, trivial⟩, hS.F ht⟩) hS.2.2 dX13_isSkipped_164
      · refine lv_aload_n hx hb dX13_isSkipped_12 rfl (lv_at hl 1 rfl) ?_
        refine gf_forcedFor hx hb hj hown hK hP dX13_isSkipped_13 ?_
        refine lv_iload hx hb dX13_isSkipped_16 (lv_at hl 0 rfl) ?_
        refine ld_forcedFor hx hb hK hP hI (by omega) (by omega) dX13_isSkipped_18 (fun h_5 => ?_)
        refine lv_iconst (v := iI (-1)) hx hb dX13_isSkipped_19 rfl ?_
        have J157 : ∀ (H : Heap) (locs : List Loc) (ls : Array Slot), va_P (dC, dI) vwCl (mG ad ca g a) H → va_S A s.heap H locs → lv_has ls 9 [(4, .int (iI v4_3)), (0, .ref (ad 0)), (1, .int (iI p1)), (2, .int (iI p2)), (3, .int (iI p3))] → W p l e ({ frames := 0, cells := 0, slots := 0, locals := 0 }) s m ([.ref (ad 0), .int (iI p1), .int (iI p2), .int (iI p3)] : List Value).toArray below meth c H locs 0 0 Q (F0 m 157 ls []) := by
          intro H locs ls hP hS hl
          refine lv_iinc (v := iI (v4_3 + 1)) (lv' := [(4, .int (iI (v4_3 + 1))), (0, .ref (ad 0)), (1, .int (iI p1)), (2, .int (iI p2)), (3, .int (iI p3))]) hx hb dX13_isSkipped_157 hl (k := 0) rfl (iI_add _ _) (by decide) rfl (fun ls hl => ?_)
          refine lv_goto (tgt := 3) hx hb dX13_isSkipped_160 (by decide) ?_
          exact ih3 (v4_3 + 1) H locs ls (by omega) (by omega) hP hS hl
        have J37 : ∀ (H : Heap) (locs : List Loc) (ls : Array Slot), va_P (dC, dI) vwCl (mG ad ca g a) H → va_S A s.heap H locs → lv_has ls 9 [(4, .int (iI v4_3)), (0, .ref (ad 0)), (1, .int (iI p1)), (2, .int (iI p2)), (3, .int (iI p3))] → W p l e ({ frames := 0, cells := 0, slots := 0, locals := 0 }) s m ([.ref (ad 0), .int (iI p1), .int (iI p2), .int (iI p3)] : List Value).toArray below meth c H locs 0 0 Q (F0 m 37 ls []) := by
          intro H locs ls hP hS hl
          refine lv_iconst (v := iI 0) hx hb dX13_isSkipped_37 rfl ?_
          refine lv_istore (lv' := [(5, .int (iI 0)), (4, .int (iI v4_3)), (0, .ref (ad 0)), (1, .int (iI p1)), (2, .int (iI p2)), (3, .int (iI p3))]) hx hb dX13_isSkipped_38 hl (by decide) rfl (fun ls hl => ?_)
          have L40 : ∀ (n40 : Nat) (v5_40 : Int) (H : Heap) (locs : List Loc) (ls : Array Slot), (0 ≤ v5_40 ∧ v5_40 ≤ 4) → (0 < (n40 : Int) ∧ (a 13 (a 16 v4_3)) - v5_40 < (n40 : Int)) → va_P (dC, dI) vwCl (mG ad ca g a) H → va_S A s.heap H locs → lv_has ls 9 [(5, .int (iI v5_40)), (4, .int (iI v4_3)), (0, .ref (ad 0)), (1, .int (iI p1)), (2, .int (iI p2)), (3, .int (iI p3))] → W p l e ({ frames := 0, cells := 0, slots := 0, locals := 0 }) s m ([.ref (ad 0), .int (iI p1), .int (iI p2), .int (iI p3)] : List Value).toArray below meth c H locs 0 0 Q (F0 m 40 ls []) := by
            intro n40
            induction n40 with
            | zero =>
              intro v5_40 H locs ls h_6 hm40 hP hS hl
              exfalso; omega
            | succ n40 ih40 =>
              intro v5_40 H locs ls h_7 hm40 hP hS hl
              refine lv_iload hx hb dX13_isSkipped_40 (lv_at hl 0 rfl) ?_
              refine lv_aload_n hx hb dX13_isSkipped_42 rfl (lv_at hl 2 rfl) ?_
              refine gf_sheetSkips hx hb hj hown hK hP dX13_isSkipped_43 ?_
              refine lv_aload_n hx hb dX13_isSkipped_46 rfl (lv_at hl 2 rfl) ?_
              refine gf_forcedSheet hx hb hj hown hK hP dX13_isSkipped_47 ?_
              refine lv_iload hx hb dX13_isSkipped_50 (lv_at hl 1 rfl) ?_
              refine ld_forcedSheet hx hb hK hP hI (by omega) (by omega) dX13_isSkipped_52 (fun h_8 => ?_)
              refine ld_sheetSkips hx hb hK hP hI (by omega) (by omega) dX13_isSkipped_53 (fun h_9 => ?_)
              refine xr_icmp_ge (tgt := 157) hx hb dX13_isSkipped_54 (by decide) (by omega) (by omega) (fun h_10 => ?_) (fun h_10 => ?_)
              · exact J157 H locs ls hP hS (lv_sub hl [1, 2, 3, 4, 5] rfl)
              · refine lv_iconst (v := iI 4) hx hb dX13_isSkipped_57 rfl ?_
                refine lv_aload_n hx hb dX13_isSkipped_58 rfl (lv_at hl 2 rfl) ?_
                refine gf_forcedSheet hx hb hj hown hK hP dX13_isSkipped_59 ?_
                refine lv_iload hx hb dX13_isSkipped_62 (lv_at hl 1 rfl) ?_
                refine ld_forcedSheet hx hb hK hP hI (by omega) (by omega) dX13_isSkipped_64 (fun h_11 => ?_)
                refine xr_mul hx hb dX13_isSkipped_65 ?_
                refine lv_iload hx hb dX13_isSkipped_66 (lv_at hl 0 rfl) ?_
                refine xr_add hx hb dX13_isSkipped_68 ?_
                refine lv_istore (lv' := [(6, .int (iI ((4 * (a 16 v4_3)) + v5_40))), (5, .int (iI v5_40)), (4, .int (iI v4_3)), (0, .ref (ad 0)), (1, .int (iI p1)), (2, .int (iI p2)), (3, .int (iI p3))]) hx hb dX13_isSkipped_69 hl (by decide) rfl (fun ls hl => ?_)
                refine lv_aload_n hx hb dX13_isSkipped_71 rfl (lv_at hl 3 rfl) ?_
                refine gf_skipSize hx hb hj hown hK hP dX13_isSkipped_72 ?_
                refine lv_iload hx hb dX13_isSkipped_75 (lv_at hl 0 rfl) ?_
                refine ld_skipSize hx hb hK hP hI (by omega) (by omega) dX13_isSkipped_77 (fun h_12 => ?_)
                refine lv_iload_n hx hb dX13_isSkipped_78 rfl (lv_at hl 5 rfl) ?_
                have J87 : ∀ (s0_87 : Int) (H : Heap) (locs : List Loc) (ls : Array Slot), (0 ≤ s0_87 ∧ s0_87 ≤ 1) → (s0_87 = 0 ∨ p2 ≤ 8) → va_P (dC, dI) vwCl (mG ad ca g a) H → va_S A s.heap H locs → lv_has ls 9 [(6, .int (iI ((4 * (a 16 v4_3)) + v5_40))), (5, .int (iI v5_40)), (4, .int (iI v4_3)), (0, .ref (ad 0)), (1, .int (iI p1)), (2, .int (iI p2)), (3, .int (iI p3))] → W p l e ({ frames := 0, cells := 0, slots := 0, locals := 0 }) s m ([.ref (ad 0), .int (iI p1), .int (iI p2), .int (iI p3)] : List Value).toArray below meth c H locs 0 0 Q (F0 m 87 ls [.int (iI s0_87)]) := by
                  intro s0_87 H locs ls h_13 h_14 hP hS hl
                  refine lv_istore (lv' := [(7, .int (iI s0_87)), (6, .int (iI ((4 * (a 16 v4_3)) + v5_40))), (5, .int (iI v5_40)), (4, .int (iI v4_3)), (0, .ref (ad 0)), (1, .int (iI p1)), (2, .int (iI p2)), (3, .int (iI p3))]) hx hb dX13_isSkipped_87 hl (by decide) rfl (fun ls hl => ?_)
                  refine lv_iconst (v := iI 0) hx hb dX13_isSkipped_89 rfl ?_
                  refine lv_istore (lv' := [(8, .int (iI 0)), (7, .int (iI s0_87)), (6, .int (iI ((4 * (a 16 v4_3)) + v5_40))), (5, .int (iI v5_40)), (4, .int (iI v4_3)), (0, .ref (ad 0)), (1, .int (iI p1)), (2, .int (iI p2)), (3, .int (iI p3))]) hx hb dX13_isSkipped_90 hl (by decide) rfl (fun ls hl => ?_)
                  have L92 : ∀ (n92 : Nat) (v8_92 v7_92 : Int) (H : Heap) (locs : List Loc) (ls : Array Slot), (0 ≤ v8_92 ∧ v8_92 ≤ 2147483647) → ((-2147483648) ≤ v7_92 ∧ v7_92 ≤ 1) → (v7_92 = 0 ∨ p2 ≤ 8) → (0 ≤ v7_92) → (0 < (n92 : Int) ∧ p2 - v8_92 < (n92 : Int)) → va_P (dC, dI) vwCl (mG ad ca g a) H → va_S A s.heap H locs → lv_has ls 9 [(8, .int (iI v8_92)), (7, .int (iI v7_92)), (6, .int (iI ((4 * (a 16 v4_3)) + v5_40))), (5, .int (iI v5_40)), (4, .int (iI v4_3)), (0, .ref (ad 0)), (1, .int (iI p1)), (2, .int (iI p2)), (3, .int (iI p3))] → W p l e ({ frames := 0, cells := 0, slots := 0, locals := 0 }) s m ([.ref (ad 0), .int (iI p1), .int (iI p2), .int (iI p3)] : List Value).toArray below meth c H locs 0 0 Q (F0 m 92 ls []) := by
                    intro n92
                    induction n92 with
                    | zero =>
                      intro v8_92 v7_92 H locs ls h_15 h_16 h_17 h_18 hm92 hP hS hl
                      exfalso; omega
                    | succ n92 ih92 =>
                      intro v8_92 v7_92 H locs ls h_19 h_20 h_21 h_22 hm92 hP hS hl
                      refine lv_iload hx hb dX13_isSkipped_92 (lv_at hl 0 rfl) ?_
                      refine lv_iload_n hx hb dX13_isSkipped_94 rfl (lv_at hl 7 rfl) ?_
                      have J144 : ∀ (H : Heap) (locs : List Loc) (ls : Array Slot), va_P (dC, dI) vwCl (mG ad ca g a) H → va_S A s.heap H locs → lv_has ls 9 [(8, .int (iI v8_92)), (7, .int (iI v7_92)), (6, .int (iI ((4 * (a 16 v4_3)) + v5_40))), (5, .int (iI v5_40)), (4, .int (iI v4_3)), (0, .ref (ad 0)), (1, .int (iI p1)), (2, .int (iI p2)), (3, .int (iI p3))] → W p l e ({ frames := 0, cells := 0, slots := 0, locals := 0 }) s m ([.ref (ad 0), .int (iI p1), .int (iI p2), .int (iI p3)] : List Value).toArray below meth c H locs 0 0 Q (F0 m 144 ls []) := by
                        intro H locs ls hP hS hl
                        refine lv_iload hx hb dX13_isSkipped_144 (lv_at hl 1 rfl) ?_
                        refine xr_if_eq (tgt := 151) hx hb dX13_isSkipped_146 (by decide) (by omega) (fun h_23 => ?_) (fun h_23 => ?_)
                        · refine lv_iinc (v := iI (v5_40 + 1)) (lv' := [(5, .int (iI (v5_40 + 1))), (8, .int (iI v8_92)), (7, .int (iI v7_92)), (6, .int (iI ((4 * (a 16 v4_3)) + v5_40))), (4, .int (iI v4_3)), (0, .ref (ad 0)), (1, .int (iI p1)), (2, .int (iI p2)), (3, .int (iI p3))]) hx hb dX13_isSkipped_151 hl (k := 3) rfl (iI_add _ _) (by decide) rfl (fun ls hl => ?_)
                          refine lv_goto (tgt := 40) hx hb dX13_isSkipped_154 (by decide) ?_
                          exact ih40 (v5_40 + 1) H locs ls (by omega) (by omega) hP hS (lv_sub hl [0, 4, 5, 6, 7, 8] rfl)
                        · refine lv_iconst (v := iI 1) hx hb dX13_isSkipped_149 rfl ?_
                          rw [← hQ]
                          exact W.zret (v := iI 1) (ty := .boolean) hx hb hr (nb_bool (by omega) (by omega)) (fun t ht hW => ⟨⟨iI 1, (), rfl, ⟨1, rfl, by omega⟩, trivial⟩, hS.F ht⟩) hS.2.2 dX13_isSkipped_150
                      refine xr_icmp_ge (tgt := 144) hx hb dX13_isSkipped_95 (by decide) (by omega) (by omega) (fun h_24 => ?_) (fun h_24 => ?_)
                      · exact J144 H locs ls hP hS hl
                      · refine lv_iload hx hb dX13_isSkipped_98 (lv_at hl 1 rfl) ?_
                        refine xr_if_eq (tgt := 144) hx hb dX13_isSkipped_100 (by decide) (by omega) (fun h_25 => ?_) (fun h_25 => ?_)
                        · exact J144 H locs ls hP hS hl
                        · refine lv_aload_n hx hb dX13_isSkipped_103 rfl (lv_at hl 5 rfl) ?_
                          refine gf_skipText hx hb hj hown hK hP dX13_isSkipped_104 ?_
                          refine lv_bipush (v := iI 8) hx hb dX13_isSkipped_107 rfl ?_
                          refine lv_iload hx hb dX13_isSkipped_109 (lv_at hl 2 rfl) ?_
                          refine xr_mul hx hb dX13_isSkipped_111 ?_
                          refine lv_iload hx hb dX13_isSkipped_112 (lv_at hl 0 rfl) ?_
                          refine xr_add hx hb dX13_isSkipped_114 ?_
                          refine ld_skipText hx hb hK hP hI (by omega) (by omega) dX13_isSkipped_115 (fun h_26 => ?_)
                          refine lv_aload_n hx hb dX13_isSkipped_116 rfl (lv_at hl 5 rfl) ?_
                          refine gf_heading hx hb hj hown hK hP dX13_isSkipped_117 ?_
                          refine lv_bipush (v := iI 12) hx hb dX13_isSkipped_120 rfl ?_
                          refine lv_iload_n hx hb dX13_isSkipped_122 rfl (lv_at hl 6 rfl) ?_
                          refine xr_mul hx hb dX13_isSkipped_123 ?_
                          refine lv_iload hx hb dX13_isSkipped_124 (lv_at hl 0 rfl) ?_
                          refine xr_add hx hb dX13_isSkipped_126 ?_
                          refine ld_heading hx hb hK hP hI (by omega) (by omega) dX13_isSkipped_127 (fun h_27 => ?_)
                          have J136 : ∀ (s0_136 : Int) (H : Heap) (locs : List Loc) (ls : Array Slot), (0 ≤ s0_136 ∧ s0_136 ≤ 1) → (s0_136 = 0 ∨ p2 ≤ 8) → va_P (dC, dI) vwCl (mG ad ca g a) H → va_S A s.heap H locs → lv_has ls 9 [(8, .int (iI v8_92)), (7, .int (iI v7_92)), (6, .int (iI ((4 * (a 16 v4_3)) + v5_40))), (5, .int (iI v5_40)), (4, .int (iI v4_3)), (0, .ref (ad 0)), (1, .int (iI p1)), (2, .int (iI p2)), (3, .int (iI p3))] → W p l e ({ frames := 0, cells := 0, slots := 0, locals := 0 }) s m ([.ref (ad 0), .int (iI p1), .int (iI p2), .int (iI p3)] : List Value).toArray below meth c H locs 0 0 Q (F0 m 136 ls [.int (iI s0_136)]) := by
                            intro s0_136 H locs ls h_28 h_29 hP hS hl
                            refine lv_istore (lv' := [(7, .int (iI s0_136)), (8, .int (iI v8_92)), (6, .int (iI ((4 * (a 16 v4_3)) + v5_40))), (5, .int (iI v5_40)), (4, .int (iI v4_3)), (0, .ref (ad 0)), (1, .int (iI p1)), (2, .int (iI p2)), (3, .int (iI p3))]) hx hb dX13_isSkipped_136 hl (by decide) rfl (fun ls hl => ?_)
                            refine lv_iinc (v := iI (v8_92 + 1)) (lv' := [(8, .int (iI (v8_92 + 1))), (7, .int (iI s0_136)), (6, .int (iI ((4 * (a 16 v4_3)) + v5_40))), (5, .int (iI v5_40)), (4, .int (iI v4_3)), (0, .ref (ad 0)), (1, .int (iI p1)), (2, .int (iI p2)), (3, .int (iI p3))]) hx hb dX13_isSkipped_138 hl (k := 1) rfl (iI_add _ _) (by decide) rfl (fun ls hl => ?_)
                            refine lv_goto (tgt := 92) hx hb dX13_isSkipped_141 (by decide) ?_
                            exact ih92 (v8_92 + 1) s0_136 H locs ls (by omega) (by omega) (by omega) (by omega) (by omega) hP hS hl
                          refine xr_icmp_ne (tgt := 135) hx hb dX13_isSkipped_128 (by decide) (by omega) (by omega) (fun h_30 => ?_) (fun h_30 => ?_)
                          · refine lv_iconst (v := iI 0) hx hb dX13_isSkipped_135 rfl ?_
                            exact J136 0 H locs ls (by omega) (by omega) hP hS hl
                          · refine lv_iconst (v := iI 1) hx hb dX13_isSkipped_131 rfl ?_
                            refine lv_goto (tgt := 136) hx hb dX13_isSkipped_132 (by decide) ?_
                            exact J136 1 H locs ls (by omega) (by omega) hP hS hl
                  exact L92 (((p2 - 0 : Int)).toNat + 1) 0 s0_87 H locs ls (by omega) (by omega) (by omega) (by omega) (by omega) hP hS hl
                refine xr_icmp_ne (tgt := 86) hx hb dX13_isSkipped_79 (by decide) (by omega) (by omega) (fun h_31 => ?_) (fun h_31 => ?_)
                · refine lv_iconst (v := iI 0) hx hb dX13_isSkipped_86 rfl ?_
                  exact J87 0 H locs ls (by omega) (by omega) hP hS hl
                · refine lv_iconst (v := iI 1) hx hb dX13_isSkipped_82 rfl ?_
                  refine lv_goto (tgt := 87) hx hb dX13_isSkipped_83 (by decide) ?_
                  exact J87 1 H locs ls (by omega) (by omega) hP hS hl
          exact L40 ((((a 13 (a 16 v4_3)) - 0 : Int)).toNat + 1) 0 H locs ls (by omega) (by omega) hP hS hl
        refine xr_icmp_eq (tgt := 37) hx hb dX13_isSkipped_20 (by decide) (by omega) (by omega) (fun h_32 => ?_) (fun h_32 => ?_)
        · exact J37 H locs ls hP hS hl
        · refine lv_aload_n hx hb dX13_isSkipped_23 rfl (lv_at hl 1 rfl) ?_
          refine gf_forcedFor hx hb hj hown hK hP dX13_isSkipped_24 ?_
          refine lv_iload hx hb dX13_isSkipped_27 (lv_at hl 0 rfl) ?_
          refine ld_forcedFor hx hb hK hP hI (by omega) (by omega) dX13_isSkipped_29 (fun h_33 => ?_)
          refine lv_iload_n hx hb dX13_isSkipped_30 rfl (lv_at hl 4 rfl) ?_
          refine xr_icmp_eq (tgt := 37) hx hb dX13_isSkipped_31 (by decide) (by omega) (by omega) (fun h_34 => ?_) (fun h_34 => ?_)
          · exact J37 H locs ls hP hS hl
          · refine lv_goto (tgt := 157) hx hb dX13_isSkipped_34 (by decide) ?_
            exact J157 H locs ls hP hS hl
  exact L3 ((((g 26) - 0 : Int)).toNat + 1) 0 H locs ls (by omega) (by omega) hP hS hl
set_option maxHeartbeats 2000000 in
set_option maxRecDepth 100000 in
theorem sX13_key_q64 (l : Launch) (dC : Nat → ClassId) (dI : Nat → Nat → Nat) (sz : Nat) (ad : Nat → Nat) (ca : Nat → ClassId) (g : Nat → Int) (a : Nat → Int → Int) (p1 : Int) (p2 : Int) (p3 : Int) (hI : mI g a) (q1 : rg p1) (q2 : rg p2) (q3 : rg p3) (k1 : 0 ≤ p1 ∧ p1 < 60) : Met l yX13_key (jk yX13_key cX13_key 12 (some .int)) ({ frames := 4, cells := 0, slots := 0, locals := 110 }) (va_Pc [.ref (ad 0), .int (iI p1), .int (iI p2), .int (iI p3), .ref (ad 64)] (jw_P (dC, dI) (mG ad ca g a) (mT ca) sz)) (va_Qi (fun (r : Int32) (u : (Nat → Int) × (Nat → Int → Int)) => ∃ z : Int, r = iI z ∧ (u.1 = g) ∧ (mI u.1 u.2) ∧ (∀ j, j ∉ ([63, 64] : List Nat) → u.2 j = a j) ∧ (0 ≤ z ∧ z ≤ 12)) (fun u t => va_P (dC, dI) vwCl (mG ad ca u.1 u.2) t.heap ∧ va_K (dC, dI) vwCl (mT ca) t ∧ va_D (va_A (mG ad ca g a) sz) (mG ad ca u.1 u.2)) (va_A (mG ad ca g a) sz)) 0 0 (va_A (mG ad ca g a) sz) := by
  refine Met.ofW (cc := cX13_key) (maxL := 12) (ret := (some .int)) (by decide) rfl ?_
  intro p e s m args below meth c s₁ B hml hv
  obtain ⟨rfl, hsz, hP, hK, hD0⟩ := hv
  have hx := B.exec
  have hb := B.bytes
  have hr := B.returns
  have hts := atoms_spec (ws := (jk yX13_key cX13_key 12 (some .int))) B.pre
  have hj : ∀ w ∈ jw, w.before ([.ref (ad 0), .int (iI p1), .int (iI p2), .int (iI p3), .ref (ad 64)] : List Value).toArray s = true := fun w h => hts w (jm h)
  have hown : s.vm.findClass RX13 = some m.cls := findClass_of_methodNamed B.named
  subst hsz
  have hD := hD0.self (sz := s.heap.size)
  generalize hAe : (va_A (mG ad ca g a) s.heap.size) = A at hD ⊢
  have hA : ∀ q : Nat, s.heap.size ≤ q → A q := fun q h => by rw [← hAe]; exact Or.inr h
  have hS : va_S A s.heap s.heap [] := va_S.rf
  have hP : va_P (dC, dI) vwCl (mG ad ca g a) s.heap := hP
  have haA : ∀ j, j ∉ ([63, 64] : List Nat) → a j = a j := fun _ _ => rfl
  have hl := lv_entry ([.ref (ad 0), .int (iI p1), .int (iI p2), .int (iI p3), .ref (ad 64)]) (n := 12) (Nat.le_of_ble_eq_true rfl)
  rw [lg_entry_eq]
  generalize (lg_sl ([.ref (ad 0), .int (iI p1), .int (iI p2), .int (iI p3), .ref (ad 64)]) ++ List.replicate (12 - (lg_sl ([.ref (ad 0), .int (iI p1), .int (iI p2), .int (iI p3), .ref (ad 64)])).length) Slot.unset).toArray = ls at hl ⊢
  have hl : lv_has ls 12 [(0, .ref (ad 0)), (1, .int (iI p1)), (2, .int (iI p2)), (3, .int (iI p3)), (4, .ref (ad 64))] := hl
  generalize hQ : MQ below (va_Qi (fun (r : Int32) (u : (Nat → Int) × (Nat → Int → Int)) => ∃ z : Int, r = iI z ∧ (u.1 = g) ∧ (mI u.1 u.2) ∧ (∀ j, j ∉ ([63, 64] : List Nat) → u.2 j = a j) ∧ (0 ≤ z ∧ z ≤ 12)) (fun u t => va_P (dC, dI) vwCl (mG ad ca u.1 u.2) t.heap ∧ va_K (dC, dI) vwCl (mT ca) t ∧ va_D A (mG ad ca u.1 u.2)) A) ([.ref (ad 0), .int (iI p1), .int (iI p2), .int (iI p3), .ref (ad 64)] : List Value).toArray s 0 0 A = Q
  suffices ST : ∀ (H : Heap) (locs : List Loc), va_P (dC, dI) vwCl (mG ad ca g a) H → va_S A s.heap H locs → W p l e ({ frames := 4, cells := 0, slots := 0, locals := 110 }) s m ([.ref (ad 0), .int (iI p1), .int (iI p2), .int (iI p3), .ref (ad 64)] : List Value).toArray below meth c H locs 0 0 Q (F0 m 0 ls []) from ST _ _ hP hS
  clear hP hS
  intro H locs hP hS
  refine lv_aload_n hx hb dX13_key_0 rfl (lv_at hl 0 rfl) ?_
  refine lv_iconst (v := iI 0) hx hb dX13_key_1 rfl ?_
  refine lv_iload_n hx hb dX13_key_2 rfl (lv_at hl 2 rfl) ?_
  refine lv_aload_n hx hb dX13_key_3 rfl (lv_at hl 0 rfl) ?_
  refine gf_now hx hb hj hown hK hP hI dX13_key_4 (fun h_1 => ?_)
  refine jcg_i (va_runV (As := [.int (iI 0), .int (iI p2), .int (iI (g 30))]) (rest := []) ⟨hx, hb, hml, hown, hts⟩ (sX13_tells l dC dI _ ad ca g a 0 p2 (g 30) hI (by omega) (by omega) (by omega) (by omega)) (cwV 3 hts (jgoodV m_249 m_484 m_485 m_503 m_210) rfl rfl rfl (by decide +kernel) ⟨(Nat.le_of_ble_eq_true rfl), (Nat.le_of_ble_eq_true rfl)⟩) ⟨jw_blind, va_recv hK hP (ci := 13) (q0 := 0) rfl rfl, fun U hU hW => ⟨rfl, jw_of hU hW hP hK hD⟩⟩ rfl rfl hl.1 rfl (lv_room (Nat.le_of_ble_eq_true rfl)) dX13_key_7 ⟨(Nat.le_of_ble_eq_true rfl), (Nat.le_of_ble_eq_true rfl)⟩) hD hS hA (fun r_2 u_8 H locs w_3 hP hK hD hS => ?_)
  obtain ⟨g_6, a_7⟩ := u_8
  obtain ⟨z_4, rfl, e_10, hI, hfr_9, h_5⟩ := w_3
  have hP : va_P (dC, dI) vwCl (mG ad ca g_6 a_7) H := hP
  have hD : va_D A (mG ad ca g_6 a_7) := hD
  have e_10 : g = g_6 := e_10.symm
  subst e_10
  have haA : ∀ j, j ∉ ([63, 64] : List Nat) → a_7 j = a j := fun j h => (hfr_9 j (fun q => h (by first | exact q | (simp only [List.mem_cons, List.not_mem_nil, or_false] at q ⊢ <;> omega)))).trans (haA j h)
  refine lv_iconst (v := iI 1) hx hb dX13_key_10 rfl ?_
  have J19 : ∀ (s0_19 : Int) (H : Heap) (locs : List Loc) (ls : Array Slot), (0 ≤ s0_19 ∧ s0_19 ≤ 1) → va_P (dC, dI) vwCl (mG ad ca g a_7) H → va_D A (mG ad ca g a_7) → va_S A s.heap H locs → lv_has ls 12 [(0, .ref (ad 0)), (1, .int (iI p1)), (2, .int (iI p2)), (3, .int (iI p3)), (4, .ref (ad 64))] → W p l e ({ frames := 4, cells := 0, slots := 0, locals := 110 }) s m ([.ref (ad 0), .int (iI p1), .int (iI p2), .int (iI p3), .ref (ad 64)] : List Value).toArray below meth c H locs 0 0 Q (F0 m 19 ls [.int (iI s0_19)]) := by
    intro s0_19 H locs ls h_11 hP hD hS hl
    refine lv_iload_n hx hb dX13_key_19 rfl (lv_at hl 3 rfl) ?_
    refine lv_iconst (v := iI 3) hx hb dX13_key_20 rfl ?_
    have J29 : ∀ (s0_29 : Int) (H : Heap) (locs : List Loc) (ls : Array Slot), (0 ≤ s0_29 ∧ s0_29 ≤ 1) → va_P (dC, dI) vwCl (mG ad ca g a_7) H → va_D A (mG ad ca g a_7) → va_S A s.heap H locs → lv_has ls 12 [(0, .ref (ad 0)), (1, .int (iI p1)), (2, .int (iI p2)), (3, .int (iI p3)), (4, .ref (ad 64))] → W p l e ({ frames := 4, cells := 0, slots := 0, locals := 110 }) s m ([.ref (ad 0), .int (iI p1), .int (iI p2), .int (iI p3), .ref (ad 64)] : List Value).toArray below meth c H locs 0 0 Q (F0 m 29 ls [.int (iI s0_29), .int (iI s0_19)]) := by
      intro s0_29 H locs ls h_12 hP hD hS hl
      have J37 : ∀ (s0_37 : Int) (H : Heap) (locs : List Loc) (ls : Array Slot), (0 ≤ s0_37 ∧ s0_37 ≤ 1) → va_P (dC, dI) vwCl (mG ad ca g a_7) H → va_D A (mG ad ca g a_7) → va_S A s.heap H locs → lv_has ls 12 [(0, .ref (ad 0)), (1, .int (iI p1)), (2, .int (iI p2)), (3, .int (iI p3)), (4, .ref (ad 64))] → W p l e ({ frames := 4, cells := 0, slots := 0, locals := 110 }) s m ([.ref (ad 0), .int (iI p1), .int (iI p2), .int (iI p3), .ref (ad 64)] : List Value).toArray below meth c H locs 0 0 Q (F0 m 37 ls [.int (iI s0_37)]) := by
        intro s0_37 H locs ls h_13 hP hD hS hl
        refine lv_istore (lv' := [(5, .int (iI s0_37)), (0, .ref (ad 0)), (1, .int (iI p1)), (2, .int (iI p2)), (3, .int (iI p3)), (4, .ref (ad 64))]) hx hb dX13_key_37 hl (by decide) rfl (fun ls hl => ?_)
        refine lv_aload_n hx hb dX13_key_39 rfl (lv_at hl 1 rfl) ?_
        refine lv_iconst (v := iI 1) hx hb dX13_key_40 rfl ?_
        refine lv_iload_n hx hb dX13_key_41 rfl (lv_at hl 3 rfl) ?_
        refine lv_aload_n hx hb dX13_key_42 rfl (lv_at hl 1 rfl) ?_
        refine gf_now hx hb hj hown hK hP hI dX13_key_43 (fun h_14 => ?_)
        refine jcg_i (va_runV (As := [.int (iI 1), .int (iI p2), .int (iI (g 30))]) (rest := []) ⟨hx, hb, hml, hown, hts⟩ (sX13_tells l dC dI _ ad ca g a_7 1 p2 (g 30) hI (by omega) (by omega) (by omega) (by omega)) (cwV 3 hts (jgoodV m_249 m_484 m_485 m_503 m_210) rfl rfl rfl (by decide +kernel) ⟨(Nat.le_of_ble_eq_true rfl), (Nat.le_of_ble_eq_true rfl)⟩) ⟨jw_blind, va_recv hK hP (ci := 13) (q0 := 0) rfl rfl, fun U hU hW => ⟨rfl, jw_of hU hW hP hK hD⟩⟩ rfl rfl hl.1 rfl (lv_room (Nat.le_of_ble_eq_true rfl)) dX13_key_46 ⟨(Nat.le_of_ble_eq_true rfl), (Nat.le_of_ble_eq_true rfl)⟩) hD hS hA (fun r_15 u_21 H locs w_16 hP hK hD hS => ?_)
        obtain ⟨g_19, a_20⟩ := u_21
        obtain ⟨z_17, rfl, e_23, hI, hfr_22, h_18⟩ := w_16
        have hP : va_P (dC, dI) vwCl (mG ad ca g_19 a_20) H := hP
        have hD : va_D A (mG ad ca g_19 a_20) := hD
        have e_23 : g = g_19 := e_23.symm
        subst e_23
        have haA : ∀ j, j ∉ ([63, 64] : List Nat) → a_20 j = a j := fun j h => (hfr_22 j (fun q => h (by first | exact q | (simp only [List.mem_cons, List.not_mem_nil, or_false] at q ⊢ <;> omega)))).trans (haA j h)
        refine lv_iconst (v := iI 1) hx hb dX13_key_49 rfl ?_
        have J58 : ∀ (s0_58 : Int) (H : Heap) (locs : List Loc) (ls : Array Slot), (0 ≤ s0_58 ∧ s0_58 ≤ 1) → va_P (dC, dI) vwCl (mG ad ca g a_20) H → va_D A (mG ad ca g a_20) → va_S A s.heap H locs → lv_has ls 12 [(5, .int (iI s0_37)), (0, .ref (ad 0)), (1, .int (iI p1)), (2, .int (iI p2)), (3, .int (iI p3)), (4, .ref (ad 64))] → W p l e ({ frames := 4, cells := 0, slots := 0, locals := 110 }) s m ([.ref (ad 0), .int (iI p1), .int (iI p2), .int (iI p3), .ref (ad 64)] : List Value).toArray below meth c H locs 0 0 Q (F0 m 58 ls [.int (iI s0_58)]) := by
          intro s0_58 H locs ls h_24 hP hD hS hl
          refine lv_iload_n hx hb dX13_key_58 rfl (lv_at hl 4 rfl) ?_
          refine lv_iconst (v := iI 2) hx hb dX13_key_59 rfl ?_
          have J68 : ∀ (s0_68 : Int) (H : Heap) (locs : List Loc) (ls : Array Slot), (0 ≤ s0_68 ∧ s0_68 ≤ 1) → va_P (dC, dI) vwCl (mG ad ca g a_20) H → va_D A (mG ad ca g a_20) → va_S A s.heap H locs → lv_has ls 12 [(5, .int (iI s0_37)), (0, .ref (ad 0)), (1, .int (iI p1)), (2, .int (iI p2)), (3, .int (iI p3)), (4, .ref (ad 64))] → W p l e ({ frames := 4, cells := 0, slots := 0, locals := 110 }) s m ([.ref (ad 0), .int (iI p1), .int (iI p2), .int (iI p3), .ref (ad 64)] : List Value).toArray below meth c H locs 0 0 Q (F0 m 68 ls [.int (iI s0_68), .int (iI s0_58)]) := by
            intro s0_68 H locs ls h_25 hP hD hS hl
            have J76 : ∀ (s0_76 : Int) (H : Heap) (locs : List Loc) (ls : Array Slot), (0 ≤ s0_76 ∧ s0_76 ≤ 1) → va_P (dC, dI) vwCl (mG ad ca g a_20) H → va_D A (mG ad ca g a_20) → va_S A s.heap H locs → lv_has ls 12 [(5, .int (iI s0_37)), (0, .ref (ad 0)), (1, .int (iI p1)), (2, .int (iI p2)), (3, .int (iI p3)), (4, .ref (ad 64))] → W p l e ({ frames := 4, cells := 0, slots := 0, locals := 110 }) s m ([.ref (ad 0), .int (iI p1), .int (iI p2), .int (iI p3), .ref (ad 64)] : List Value).toArray below meth c H locs 0 0 Q (F0 m 76 ls [.int (iI s0_76)]) := by
              intro s0_76 H locs ls h_26 hP hD hS hl
              refine lv_istore (lv' := [(6, .int (iI s0_76)), (5, .int (iI s0_37)), (0, .ref (ad 0)), (1, .int (iI p1)), (2, .int (iI p2)), (3, .int (iI p3)), (4, .ref (ad 64))]) hx hb dX13_key_76 hl (by decide) rfl (fun ls hl => ?_)
              refine lv_iconst (v := iI 0) hx hb dX13_key_78 rfl ?_
              refine lv_istore (lv' := [(7, .int (iI 0)), (6, .int (iI s0_76)), (5, .int (iI s0_37)), (0, .ref (ad 0)), (1, .int (iI p1)), (2, .int (iI p2)), (3, .int (iI p3)), (4, .ref (ad 64))]) hx hb dX13_key_79 hl (by decide) rfl (fun ls hl => ?_)
              have L81 : ∀ (n81 : Nat) (v7_81 : Int) (H : Heap) (locs : List Loc) (ls : Array Slot), (0 ≤ v7_81 ∧ v7_81 ≤ 2147483647) → (v7_81 ≤ 12) → (0 < (n81 : Int) ∧ (a_20 26 p1) - v7_81 < (n81 : Int)) → va_P (dC, dI) vwCl (mG ad ca g a_20) H → va_D A (mG ad ca g a_20) → va_S A s.heap H locs → lv_has ls 12 [(7, .int (iI v7_81)), (6, .int (iI s0_76)), (5, .int (iI s0_37)), (0, .ref (ad 0)), (1, .int (iI p1)), (2, .int (iI p2)), (3, .int (iI p3)), (4, .ref (ad 64))] → W p l e ({ frames := 4, cells := 0, slots := 0, locals := 110 }) s m ([.ref (ad 0), .int (iI p1), .int (iI p2), .int (iI p3), .ref (ad 64)] : List Value).toArray below meth c H locs 0 0 Q (F0 m 81 ls []) := by
                intro n81
                induction n81 with
                | zero =>
                  intro v7_81 H locs ls h_27 h_28 hm81 hP hD hS hl
                  exfalso; omega
                | succ n81 ih81 =>
                  intro v7_81 H locs ls h_29 h_30 hm81 hP hD hS hl
                  refine lv_iload hx hb dX13_key_81 (lv_at hl 0 rfl) ?_
                  refine lv_aload_n hx hb dX13_key_83 rfl (lv_at hl 3 rfl) ?_
                  refine gf_headingLong hx hb hj hown hK hP dX13_key_84 ?_
                  refine lv_iload_n hx hb dX13_key_87 rfl (lv_at hl 4 rfl) ?_
                  refine ld_headingLong hx hb hK hP hI (by omega) (by omega) dX13_key_88 (fun h_31 => ?_)
                  have J115 : ∀ (H : Heap) (locs : List Loc) (ls : Array Slot), va_P (dC, dI) vwCl (mG ad ca g a_20) H → va_D A (mG ad ca g a_20) → va_S A s.heap H locs → lv_has ls 12 [(7, .int (iI v7_81)), (6, .int (iI s0_76)), (5, .int (iI s0_37)), (0, .ref (ad 0)), (1, .int (iI p1)), (2, .int (iI p2)), (3, .int (iI p3)), (4, .ref (ad 64))] → W p l e ({ frames := 4, cells := 0, slots := 0, locals := 110 }) s m ([.ref (ad 0), .int (iI p1), .int (iI p2), .int (iI p3), .ref (ad 64)] : List Value).toArray below meth c H locs 0 0 Q (F0 m 115 ls []) := by
                    intro H locs ls hP hD hS hl
                    refine lv_iload_n hx hb dX13_key_115 rfl (lv_at hl 6 rfl) ?_
                    refine lv_iconst (v := iI 1) hx hb dX13_key_116 rfl ?_
                    have J147 : ∀ (s0_147 : Int) (H : Heap) (locs : List Loc) (ls : Array Slot), (0 ≤ s0_147 ∧ s0_147 ≤ 1) → va_P (dC, dI) vwCl (mG ad ca g a_20) H → va_D A (mG ad ca g a_20) → va_S A s.heap H locs → lv_has ls 12 [(7, .int (iI v7_81)), (6, .int (iI s0_76)), (5, .int (iI s0_37)), (0, .ref (ad 0)), (1, .int (iI p1)), (2, .int (iI p2)), (3, .int (iI p3)), (4, .ref (ad 64))] → W p l e ({ frames := 4, cells := 0, slots := 0, locals := 110 }) s m ([.ref (ad 0), .int (iI p1), .int (iI p2), .int (iI p3), .ref (ad 64)] : List Value).toArray below meth c H locs 0 0 Q (F0 m 147 ls [.int (iI s0_147)]) := by
                      intro s0_147 H locs ls h_32 hP hD hS hl
                      refine lv_istore (lv' := [(8, .int (iI s0_147)), (7, .int (iI v7_81)), (6, .int (iI s0_76)), (5, .int (iI s0_37)), (0, .ref (ad 0)), (1, .int (iI p1)), (2, .int (iI p2)), (3, .int (iI p3)), (4, .ref (ad 64))]) hx hb dX13_key_147 hl (by decide) rfl (fun ls hl => ?_)
                      refine lv_iload hx hb dX13_key_149 (lv_at hl 0 rfl) ?_
                      have J162 : ∀ (s0_162 : Int) (H : Heap) (locs : List Loc) (ls : Array Slot), ((-2147483648) ≤ s0_162 ∧ s0_162 ≤ 2147483647) → (0 ≤ s0_162 ∧ s0_162 ≤ 13) → va_P (dC, dI) vwCl (mG ad ca g a_20) H → va_D A (mG ad ca g a_20) → va_S A s.heap H locs → lv_has ls 12 [(8, .int (iI s0_147)), (7, .int (iI v7_81)), (6, .int (iI s0_76)), (5, .int (iI s0_37)), (0, .ref (ad 0)), (1, .int (iI p1)), (2, .int (iI p2)), (3, .int (iI p3)), (4, .ref (ad 64))] → W p l e ({ frames := 4, cells := 0, slots := 0, locals := 110 }) s m ([.ref (ad 0), .int (iI p1), .int (iI p2), .int (iI p3), .ref (ad 64)] : List Value).toArray below meth c H locs 0 0 Q (F0 m 162 ls [.int (iI s0_162)]) := by
                        intro s0_162 H locs ls h_33 h_34 hP hD hS hl
                        refine lv_istore (lv' := [(7, .int (iI s0_162)), (8, .int (iI s0_147)), (6, .int (iI s0_76)), (5, .int (iI s0_37)), (0, .ref (ad 0)), (1, .int (iI p1)), (2, .int (iI p2)), (3, .int (iI p3)), (4, .ref (ad 64))]) hx hb dX13_key_162 hl (by decide) rfl (fun ls hl => ?_)
                        refine lv_iconst (v := iI 0) hx hb dX13_key_164 rfl ?_
                        refine lv_istore (lv' := [(9, .int (iI 0)), (7, .int (iI s0_162)), (8, .int (iI s0_147)), (6, .int (iI s0_76)), (5, .int (iI s0_37)), (0, .ref (ad 0)), (1, .int (iI p1)), (2, .int (iI p2)), (3, .int (iI p3)), (4, .ref (ad 64))]) hx hb dX13_key_165 hl (by decide) rfl (fun ls hl => ?_)
                        refine lv_iload hx hb dX13_key_167 (lv_at hl 1 rfl) ?_
                        refine lv_istore (lv' := [(10, .int (iI s0_162)), (9, .int (iI 0)), (7, .int (iI s0_162)), (8, .int (iI s0_147)), (6, .int (iI s0_76)), (5, .int (iI s0_37)), (0, .ref (ad 0)), (1, .int (iI p1)), (2, .int (iI p2)), (3, .int (iI p3)), (4, .ref (ad 64))]) hx hb dX13_key_169 hl (by decide) rfl (fun ls hl => ?_)
                        have L171 : ∀ (n171 : Nat) (v10_171 v9_171 : Int) (a_171 : Nat → Int → Int) (H : Heap) (locs : List Loc) (ls : Array Slot), ((-2147483648) ≤ v10_171 ∧ v10_171 ≤ 2147483647) → ((-2147483648) ≤ v9_171 ∧ v9_171 ≤ 2147483647) → (0 ≤ v9_171 ∧ v9_171 ≤ v10_171 ∧ v9_171 ≤ 12) → (0 ≤ v10_171 ∧ v10_171 ≤ 13) → (mI g a_171) → (∀ j, j ∉ ([63, 64] : List Nat) → a_171 j = a j) → (0 < (n171 : Int) ∧ 13 - v10_171 < (n171 : Int)) → va_P (dC, dI) vwCl (mG ad ca g a_171) H → va_D A (mG ad ca g a_171) → va_S A s.heap H locs → lv_has ls 12 [(10, .int (iI v10_171)), (9, .int (iI v9_171)), (7, .int (iI s0_162)), (8, .int (iI s0_147)), (6, .int (iI s0_76)), (5, .int (iI s0_37)), (0, .ref (ad 0)), (1, .int (iI p1)), (2, .int (iI p2)), (3, .int (iI p3)), (4, .ref (ad 64))] → W p l e ({ frames := 4, cells := 0, slots := 0, locals := 110 }) s m ([.ref (ad 0), .int (iI p1), .int (iI p2), .int (iI p3), .ref (ad 64)] : List Value).toArray below meth c H locs 0 0 Q (F0 m 171 ls []) := by
                          intro n171
                          induction n171 with
                          | zero =>
                            intro v10_171 v9_171 a_171 H locs ls h_35 h_36 h_37 h_38 hI haA hm171 hP hD hS hl
                            exfalso; omega
                          | succ n171 ih171 =>
                            intro v10_171 v9_171 a_171 H locs ls h_39 h_40 h_41 h_42 hI haA hm171 hP hD hS hl
                            refine lv_iload hx hb dX13_key_171 (lv_at hl 0 rfl) ?_
                            refine lv_aload_n hx hb dX13_key_173 rfl (lv_at hl 6 rfl) ?_
                            refine gf_headingLong hx hb hj hown hK hP dX13_key_174 ?_
                            refine lv_iload_n hx hb dX13_key_177 rfl (lv_at hl 7 rfl) ?_
                            refine ld_headingLong hx hb hK hP hI (by omega) (by omega) dX13_key_178 (fun h_43 => ?_)
                            refine xr_icmp_ge (tgt := 281) hx hb dX13_key_179 (by decide) (by omega) (by omega) (fun h_44 => ?_) (fun h_44 => ?_)
                            · refine lv_iload hx hb dX13_key_281 (lv_at hl 1 rfl) ?_
                              rw [← hQ]
                              exact W.iret (v := iI v9_171) hx hb hr (fun t ht hW => ⟨⟨iI v9_171, (g, a_171), rfl, ⟨v9_171, rfl, rfl, hI, haA, by omega⟩, by rw [ht]; exact hP, va_K.moved hW.alike hK, hD⟩, hS.F ht⟩) hS.2.2 dX13_key_283
                            · refine lv_aload_n hx hb dX13_key_182 rfl (lv_at hl 6 rfl) ?_
                              refine gf_heading hx hb hj hown hK hP dX13_key_183 ?_
                              refine lv_bipush (v := iI 12) hx hb dX13_key_186 rfl ?_
                              refine lv_iload_n hx hb dX13_key_188 rfl (lv_at hl 7 rfl) ?_
                              refine xr_mul hx hb dX13_key_189 ?_
                              refine lv_iload hx hb dX13_key_190 (lv_at hl 0 rfl) ?_
                              refine xr_add hx hb dX13_key_192 ?_
                              refine ld_heading hx hb hK hP hI (by omega) (by omega) dX13_key_193 (fun h_45 => ?_)
                              refine lv_istore (lv' := [(11, .int (iI (a_171 25 ((12 * p1) + v10_171)))), (10, .int (iI v10_171)), (9, .int (iI v9_171)), (7, .int (iI s0_162)), (8, .int (iI s0_147)), (6, .int (iI s0_76)), (5, .int (iI s0_37)), (0, .ref (ad 0)), (1, .int (iI p1)), (2, .int (iI p2)), (3, .int (iI p3)), (4, .ref (ad 64))]) hx hb dX13_key_194 hl (by decide) rfl (fun ls hl => ?_)
                              refine lv_iload hx hb dX13_key_196 (lv_at hl 0 rfl) ?_
                              refine lv_bipush (v := iI 32) hx hb dX13_key_198 rfl ?_
                              have J275 : ∀ (v9_275 : Int) (a_275 : Nat → Int → Int) (H : Heap) (locs : List Loc) (ls : Array Slot), ((-2147483648) ≤ v9_275 ∧ v9_275 ≤ 2147483647) → (0 ≤ v9_275 ∧ v9_275 ≤ v10_171 + 1 ∧ v9_275 ≤ 12) → (mI g a_275) → (∀ j, j ∉ ([63, 64] : List Nat) → a_275 j = a j) → va_P (dC, dI) vwCl (mG ad ca g a_275) H → va_D A (mG ad ca g a_275) → va_S A s.heap H locs → lv_has ls 12 [(11, .int (iI (a_171 25 ((12 * p1) + v10_171)))), (10, .int (iI v10_171)), (9, .int (iI v9_275)), (7, .int (iI s0_162)), (8, .int (iI s0_147)), (6, .int (iI s0_76)), (5, .int (iI s0_37)), (0, .ref (ad 0)), (1, .int (iI p1)), (2, .int (iI p2)), (3, .int (iI p3)), (4, .ref (ad 64))] → W p l e ({ frames := 4, cells := 0, slots := 0, locals := 110 }) s m ([.ref (ad 0), .int (iI p1), .int (iI p2), .int (iI p3), .ref (ad 64)] : List Value).toArray below meth c H locs 0 0 Q (F0 m 275 ls []) := by
                                intro v9_275 a_275 H locs ls h_46 h_47 hI haA hP hD hS hl
                                refine lv_iinc (v := iI (v10_171 + 1)) (lv' := [(10, .int (iI (v10_171 + 1))), (11, .int (iI (a_171 25 ((12 * p1) + v10_171)))), (9, .int (iI v9_275)), (7, .int (iI s0_162)), (8, .int (iI s0_147)), (6, .int (iI s0_76)), (5, .int (iI s0_37)), (0, .ref (ad 0)), (1, .int (iI p1)), (2, .int (iI p2)), (3, .int (iI p3)), (4, .ref (ad 64))]) hx hb dX13_key_275 hl (k := 1) rfl (iI_add _ _) (by decide) rfl (fun ls hl => ?_)
                                refine lv_goto (tgt := 171) hx hb dX13_key_278 (by decide) ?_
                                exact ih171 (v10_171 + 1) v9_275 a_275 H locs ls (by omega) (by omega) (by omega) (by omega) hI haA (by omega) hP hD hS (lv_sub hl [0, 2, 3, 4, 5, 6, 7, 8, 9, 10, 11] rfl)
                              have J211 : ∀ (H : Heap) (locs : List Loc) (ls : Array Slot), va_P (dC, dI) vwCl (mG ad ca g a_171) H → va_D A (mG ad ca g a_171) → va_S A s.heap H locs → lv_has ls 12 [(11, .int (iI (a_171 25 ((12 * p1) + v10_171)))), (10, .int (iI v10_171)), (9, .int (iI v9_171)), (7, .int (iI s0_162)), (8, .int (iI s0_147)), (6, .int (iI s0_76)), (5, .int (iI s0_37)), (0, .ref (ad 0)), (1, .int (iI p1)), (2, .int (iI p2)), (3, .int (iI p3)), (4, .ref (ad 64))] → W p l e ({ frames := 4, cells := 0, slots := 0, locals := 110 }) s m ([.ref (ad 0), .int (iI p1), .int (iI p2), .int (iI p3), .ref (ad 64)] : List Value).toArray below meth c H locs 0 0 Q (F0 m 211 ls []) := by
                                intro H locs ls hP hD hS hl
                                refine lv_aload hx hb dX13_key_211 (lv_at hl 11 rfl) ?_
                                refine lv_iload hx hb dX13_key_213 (lv_at hl 2 rfl) ?_
                                refine lv_iload hx hb dX13_key_215 (lv_at hl 0 rfl) ?_
                                refine lv_bipush (v := iI 32) hx hb dX13_key_217 rfl ?_
                                have J271 : ∀ (s0_271 : Int) (H : Heap) (locs : List Loc) (ls : Array Slot), ((-224) ≤ s0_271 ∧ s0_271 ≤ 106) → va_P (dC, dI) vwCl (mG ad ca g a_171) H → va_D A (mG ad ca g a_171) → va_S A s.heap H locs → lv_has ls 12 [(11, .int (iI (a_171 25 ((12 * p1) + v10_171)))), (10, .int (iI v10_171)), (9, .int (iI v9_171)), (7, .int (iI s0_162)), (8, .int (iI s0_147)), (6, .int (iI s0_76)), (5, .int (iI s0_37)), (0, .ref (ad 0)), (1, .int (iI p1)), (2, .int (iI p2)), (3, .int (iI p3)), (4, .ref (ad 64))] → W p l e ({ frames := 4, cells := 0, slots := 0, locals := 110 }) s m ([.ref (ad 0), .int (iI p1), .int (iI p2), .int (iI p3), .ref (ad 64)] : List Value).toArray below meth c H locs 0 0 Q (F0 m 271 ls [.int (iI s0_271), .int (iI v9_171), .ref (ad 64)]) := by
                                  intro s0_271 H locs ls h_48 hP hD hS hl
                                  refine sa_keyOne hx hb hK hP hD hS hI (by omega) (by omega) dX13_key_271 (fun a_49 z_52 H locs h_53 h_54 e_50 e_51 hI hP hD hS => ?_)
                                  have haA : ∀ j, j ∉ ([63, 64] : List Nat) → a_49 j = a j := fun j h => (e_50 j (fun q => h (q ▸ (by decide : 64 ∈ ([63, 64] : List Nat))))).trans (haA j h)
                                  refine lv_iinc (v := iI (v9_171 + 1)) (lv' := [(9, .int (iI (v9_171 + 1))), (11, .int (iI (a_171 25 ((12 * p1) + v10_171)))), (10, .int (iI v10_171)), (7, .int (iI s0_162)), (8, .int (iI s0_147)), (6, .int (iI s0_76)), (5, .int (iI s0_37)), (0, .ref (ad 0)), (1, .int (iI p1)), (2, .int (iI p2)), (3, .int (iI p3)), (4, .ref (ad 64))]) hx hb dX13_key_272 hl (k := 2) rfl (iI_add _ _) (by decide) rfl (fun ls hl => ?_)
                                  exact J275 (v9_171 + 1) a_49 H locs ls (by omega) (by omega) hI haA hP hD hS (lv_sub hl [1, 2, 0, 3, 4, 5, 6, 7, 8, 9, 10, 11] rfl)
                                refine xr_icmp_ne (tgt := 226) hx hb dX13_key_219 (by decide) (by omega) (by omega) (fun h_55 => ?_) (fun h_55 => ?_)
                                · refine lv_iload hx hb dX13_key_226 (lv_at hl 0 rfl) ?_
                                  refine jc_i (va_runS (As := [.int (iI (a_171 25 ((12 * p1) + v10_171)))]) (rest := [.int (iI v9_171), .ref (ad 64)]) ⟨hx, hb, hml, hown, hts⟩ (sX13_isDigit l dC dI _ (a_171 25 ((12 * p1) + v10_171)) (by omega)) (va_cwS 1 hts (jgoodS m_223 m_375 m_503 m_153) rfl rfl rfl (by decide +kernel) ⟨(Nat.le_of_ble_eq_true rfl), (Nat.le_of_ble_eq_true rfl)⟩) ⟨jw_blind0, fun U hU hW => ⟨rfl, congrArg Array.size hU⟩⟩ rfl rfl hl.1 rfl (lv_room (Nat.le_of_ble_eq_true rfl)) dX13_key_228 ⟨(Nat.le_of_ble_eq_true rfl), (Nat.le_of_ble_eq_true rfl)⟩) hP hS hA (fun r_56 H locs w_57 hP hS => ?_)
                                  obtain ⟨z_58, rfl, h_59⟩ := w_57
                                  refine xr_if_eq (tgt := 254) hx hb dX13_key_231 (by decide) (by omega) (fun h_60 => ?_) (fun h_60 => ?_)
                                  · refine lv_iload hx hb dX13_key_254 (lv_at hl 0 rfl) ?_
                                    refine lv_bipush (v := iI 97) hx hb dX13_key_256 rfl ?_
                                    refine xr_sub hx hb dX13_key_258 ?_
                                    refine lv_iload hx hb dX13_key_259 (lv_at hl 6 rfl) ?_
                                    have J270 : ∀ (s0_270 : Int) (H : Heap) (locs : List Loc) (ls : Array Slot), (1 ≤ s0_270 ∧ s0_270 ≤ 11) → va_P (dC, dI) vwCl (mG ad ca g a_171) H → va_D A (mG ad ca g a_171) → va_S A s.heap H locs → lv_has ls 12 [(11, .int (iI (a_171 25 ((12 * p1) + v10_171)))), (10, .int (iI v10_171)), (9, .int (iI v9_171)), (7, .int (iI s0_162)), (8, .int (iI s0_147)), (6, .int (iI s0_76)), (5, .int (iI s0_37)), (0, .ref (ad 0)), (1, .int (iI p1)), (2, .int (iI p2)), (3, .int (iI p3)), (4, .ref (ad 64))] → W p l e ({ frames := 4, cells := 0, slots := 0, locals := 110 }) s m ([.ref (ad 0), .int (iI p1), .int (iI p2), .int (iI p3), .ref (ad 64)] : List Value).toArray below meth c H locs 0 0 Q (F0 m 270 ls [.int (iI s0_270), .int (iI ((a_171 25 ((12 * p1) + v10_171)) - 97)), .int (iI v9_171), .ref (ad 64)]) := by
                                      intro s0_270 H locs ls h_61 hP hD hS hl
                                      refine xr_add hx hb dX13_key_270 ?_
                                      exact J271 (((a_171 25 ((12 * p1) + v10_171)) - 97) + s0_270) H locs ls (by omega) hP hD hS hl
                                    refine xr_if_eq (tgt := 269) hx hb dX13_key_261 (by decide) (by omega) (fun h_62 => ?_) (fun h_62 => ?_)
                                    · refine lv_iconst (v := iI 1) hx hb dX13_key_269 rfl ?_
                                      exact J270 1 H locs ls (by omega) hP hD hS hl
                                    · refine lv_bipush (v := iI 11) hx hb dX13_key_264 rfl ?_
                                      refine lv_goto (tgt := 270) hx hb dX13_key_266 (by decide) ?_
                                      exact J270 11 H locs ls (by omega) hP hD hS hl
                                  · refine lv_iload hx hb dX13_key_234 (lv_at hl 0 rfl) ?_
                                    refine lv_bipush (v := iI 48) hx hb dX13_key_236 rfl ?_
                                    refine xr_sub hx hb dX13_key_238 ?_
                                    refine lv_iload hx hb dX13_key_239 (lv_at hl 6 rfl) ?_
                                    have J250 : ∀ (s0_250 : Int) (H : Heap) (locs : List Loc) (ls : Array Slot), (1 ≤ s0_250 ∧ s0_250 ≤ 27) → va_P (dC, dI) vwCl (mG ad ca g a_171) H → va_D A (mG ad ca g a_171) → va_S A s.heap H locs → lv_has ls 12 [(11, .int (iI (a_171 25 ((12 * p1) + v10_171)))), (10, .int (iI v10_171)), (9, .int (iI v9_171)), (7, .int (iI s0_162)), (8, .int (iI s0_147)), (6, .int (iI s0_76)), (5, .int (iI s0_37)), (0, .ref (ad 0)), (1, .int (iI p1)), (2, .int (iI p2)), (3, .int (iI p3)), (4, .ref (ad 64))] → W p l e ({ frames := 4, cells := 0, slots := 0, locals := 110 }) s m ([.ref (ad 0), .int (iI p1), .int (iI p2), .int (iI p3), .ref (ad 64)] : List Value).toArray below meth c H locs 0 0 Q (F0 m 250 ls [.int (iI s0_250), .int (iI ((a_171 25 ((12 * p1) + v10_171)) - 48)), .int (iI v9_171), .ref (ad 64)]) := by
                                      intro s0_250 H locs ls h_63 hP hD hS hl
                                      refine xr_add hx hb dX13_key_250 ?_
                                      refine lv_goto (tgt := 271) hx hb dX13_key_251 (by decide) ?_
                                      exact J271 (((a_171 25 ((12 * p1) + v10_171)) - 48) + s0_250) H locs ls (by omega) hP hD hS hl
                                    refine xr_if_eq (tgt := 248) hx hb dX13_key_241 (by decide) (by omega) (fun h_64 => ?_) (fun h_64 => ?_)
                                    · refine lv_bipush (v := iI 27) hx hb dX13_key_248 rfl ?_
                                      exact J250 27 H locs ls (by omega) hP hD hS hl
                                    · refine lv_iconst (v := iI 1) hx hb dX13_key_244 rfl ?_
                                      refine lv_goto (tgt := 250) hx hb dX13_key_245 (by decide) ?_
                                      exact J250 1 H locs ls (by omega) hP hD hS hl
                                · refine lv_iconst (v := iI 0) hx hb dX13_key_222 rfl ?_
                                  refine lv_goto (tgt := 271) hx hb dX13_key_223 (by decide) ?_
                                  exact J271 0 H locs ls (by omega) hP hD hS hl
                              refine xr_icmp_ne (tgt := 211) hx hb dX13_key_200 (by decide) (by omega) (by omega) (fun h_65 => ?_) (fun h_65 => ?_)
                              · exact J211 H locs ls hP hD hS hl
                              · refine lv_iload hx hb dX13_key_203 (lv_at hl 5 rfl) ?_
                                refine xr_if_ne (tgt := 211) hx hb dX13_key_205 (by decide) (by omega) (fun h_66 => ?_) (fun h_66 => ?_)
                                · exact J211 H locs ls hP hD hS hl
                                · refine lv_goto (tgt := 275) hx hb dX13_key_208 (by decide) ?_
                                  exact J275 v9_171 a_171 H locs ls (by omega) (by omega) hI haA hP hD hS hl
                        exact L171 (((13 - s0_162 : Int)).toNat + 1) s0_162 0 a_20 H locs ls (by omega) (by omega) (by omega) (by omega) hI haA (by omega) hP hD hS hl
                      refine xr_if_eq (tgt := 161) hx hb dX13_key_151 (by decide) (by omega) (fun h_67 => ?_) (fun h_67 => ?_)
                      · refine lv_iconst (v := iI 0) hx hb dX13_key_161 rfl ?_
                        exact J162 0 H locs ls (by omega) (by omega) hP hD hS hl
                      · refine lv_iload hx hb dX13_key_154 (lv_at hl 1 rfl) ?_
                        refine lv_iconst (v := iI 1) hx hb dX13_key_156 rfl ?_
                        refine xr_add hx hb dX13_key_157 ?_
                        refine xr_kept (fun z_68 h_69 h_70 => ?_)
                        refine lv_goto (tgt := 162) hx hb dX13_key_158 (by decide) ?_
                        exact J162 z_68 H locs ls (by omega) (by omega) hP hD hS hl
                    have J146 : ∀ (H : Heap) (locs : List Loc) (ls : Array Slot), va_P (dC, dI) vwCl (mG ad ca g a_20) H → va_D A (mG ad ca g a_20) → va_S A s.heap H locs → lv_has ls 12 [(7, .int (iI v7_81)), (6, .int (iI s0_76)), (5, .int (iI s0_37)), (0, .ref (ad 0)), (1, .int (iI p1)), (2, .int (iI p2)), (3, .int (iI p3)), (4, .ref (ad 64))] → W p l e ({ frames := 4, cells := 0, slots := 0, locals := 110 }) s m ([.ref (ad 0), .int (iI p1), .int (iI p2), .int (iI p3), .ref (ad 64)] : List Value).toArray below meth c H locs 0 0 Q (F0 m 146 ls []) := by
                      intro H locs ls hP hD hS hl
                      refine lv_iconst (v := iI 0) hx hb dX13_key_146 rfl ?_
                      exact J147 0 H locs ls (by omega) hP hD hS hl
                    refine xr_icmp_eq (tgt := 146) hx hb dX13_key_117 (by decide) (by omega) (by omega) (fun h_71 => ?_) (fun h_71 => ?_)
                    · exact J146 H locs ls hP hD hS hl
                    · refine lv_iload hx hb dX13_key_120 (lv_at hl 0 rfl) ?_
                      refine lv_aload_n hx hb dX13_key_122 rfl (lv_at hl 3 rfl) ?_
                      refine gf_headingLong hx hb hj hown hK hP dX13_key_123 ?_
                      refine lv_iload_n hx hb dX13_key_126 rfl (lv_at hl 4 rfl) ?_
                      refine ld_headingLong hx hb hK hP hI (by omega) (by omega) dX13_key_127 (fun h_72 => ?_)
                      refine xr_icmp_ge (tgt := 146) hx hb dX13_key_128 (by decide) (by omega) (by omega) (fun h_73 => ?_) (fun h_73 => ?_)
                      · exact J146 H locs ls hP hD hS hl
                      · refine lv_aload_n hx hb dX13_key_131 rfl (lv_at hl 3 rfl) ?_
                        refine lv_iload_n hx hb dX13_key_132 rfl (lv_at hl 4 rfl) ?_
                        refine lv_iload hx hb dX13_key_133 (lv_at hl 0 rfl) ?_
                        refine lv_iload_n hx hb dX13_key_135 rfl (lv_at hl 5 rfl) ?_
                        refine jc_i (va_runV (As := [.int (iI p1), .int (iI v7_81), .int (iI p2)]) (rest := []) ⟨hx, hb, hml, hown, hts⟩ (sX13_isSkipped l dC dI _ ad ca g a_20 p1 v7_81 p2 hI (by omega) (by omega) (by omega) (by omega) (by omega)) (cwV 3 hts (jgoodV m_250 m_391 m_392 m_503 m_162) rfl rfl rfl (by decide +kernel) ⟨(Nat.le_of_ble_eq_true rfl), (Nat.le_of_ble_eq_true rfl)⟩) ⟨jw_blind, va_recv hK hP (ci := 13) (q0 := 0) rfl rfl, fun U hU hW => ⟨rfl, jw_of hU hW hP hK hD⟩⟩ rfl rfl hl.1 rfl (lv_room (Nat.le_of_ble_eq_true rfl)) dX13_key_136 ⟨(Nat.le_of_ble_eq_true rfl), (Nat.le_of_ble_eq_true rfl)⟩) hP hS hA (fun r_74 H locs w_75 hP hS => ?_)
                        obtain ⟨z_76, rfl, h_77⟩ := w_75
                        refine xr_if_eq (tgt := 146) hx hb dX13_key_139 (by decide) (by omega) (fun h_78 => ?_) (fun h_78 => ?_)
                        · exact J146 H locs ls hP hD hS hl
                        · refine lv_iconst (v := iI 1) hx hb dX13_key_142 rfl ?_
                          refine lv_goto (tgt := 147) hx hb dX13_key_143 (by decide) ?_
                          exact J147 1 H locs ls (by omega) hP hD hS hl
                  refine xr_icmp_ge (tgt := 115) hx hb dX13_key_89 (by decide) (by omega) (by omega) (fun h_79 => ?_) (fun h_79 => ?_)
                  · exact J115 H locs ls hP hD hS hl
                  · refine lv_aload_n hx hb dX13_key_92 rfl (lv_at hl 3 rfl) ?_
                    refine gf_heading hx hb hj hown hK hP dX13_key_93 ?_
                    refine lv_bipush (v := iI 12) hx hb dX13_key_96 rfl ?_
                    refine lv_iload_n hx hb dX13_key_98 rfl (lv_at hl 4 rfl) ?_
                    refine xr_mul hx hb dX13_key_99 ?_
                    refine lv_iload hx hb dX13_key_100 (lv_at hl 0 rfl) ?_
                    refine xr_add hx hb dX13_key_102 ?_
                    refine ld_heading hx hb hK hP hI (by omega) (by omega) dX13_key_103 (fun h_80 => ?_)
                    refine lv_bipush (v := iI 32) hx hb dX13_key_104 rfl ?_
                    refine xr_icmp_eq (tgt := 115) hx hb dX13_key_106 (by decide) (by omega) (by omega) (fun h_81 => ?_) (fun h_81 => ?_)
                    · exact J115 H locs ls hP hD hS hl
                    · refine lv_iinc (v := iI (v7_81 + 1)) (lv' := [(7, .int (iI (v7_81 + 1))), (6, .int (iI s0_76)), (5, .int (iI s0_37)), (0, .ref (ad 0)), (1, .int (iI p1)), (2, .int (iI p2)), (3, .int (iI p3)), (4, .ref (ad 64))]) hx hb dX13_key_109 hl (k := 0) rfl (iI_add _ _) (by decide) rfl (fun ls hl => ?_)
                      refine lv_goto (tgt := 81) hx hb dX13_key_112 (by decide) ?_
                      exact ih81 (v7_81 + 1) H locs ls (by omega) (by omega) (by omega) hP hD hS hl
              exact L81 ((((a_20 26 p1) - 0 : Int)).toNat + 1) 0 H locs ls (by omega) (by omega) (by omega) hP hD hS hl
            refine xr_icmp_eq (tgt := 75) hx hb dX13_key_68 (by decide) (by omega) (by omega) (fun h_82 => ?_) (fun h_82 => ?_)
            · refine lv_iconst (v := iI 0) hx hb dX13_key_75 rfl ?_
              exact J76 0 H locs ls (by omega) hP hD hS hl
            · refine lv_iconst (v := iI 1) hx hb dX13_key_71 rfl ?_
              refine lv_goto (tgt := 76) hx hb dX13_key_72 (by decide) ?_
              exact J76 1 H locs ls (by omega) hP hD hS hl
          refine xr_icmp_ne (tgt := 67) hx hb dX13_key_60 (by decide) (by omega) (by omega) (fun h_83 => ?_) (fun h_83 => ?_)
          · refine lv_iconst (v := iI 0) hx hb dX13_key_67 rfl ?_
            exact J68 0 H locs ls (by omega) hP hD hS hl
          · refine lv_iconst (v := iI 1) hx hb dX13_key_63 rfl ?_
            refine lv_goto (tgt := 68) hx hb dX13_key_64 (by decide) ?_
            exact J68 1 H locs ls (by omega) hP hD hS hl
        refine xr_icmp_ne (tgt := 57) hx hb dX13_key_50 (by decide) (by omega) (by omega) (fun h_84 => ?_) (fun h_84 => ?_)
        · refine lv_iconst (v := iI 0) hx hb dX13_key_57 rfl ?_
          exact J58 0 H locs ls (by omega) hP hD hS hl
        · refine lv_iconst (v := iI 1) hx hb dX13_key_53 rfl ?_
          refine lv_goto (tgt := 58) hx hb dX13_key_54 (by decide) ?_
          exact J58 1 H locs ls (by omega) hP hD hS hl
      refine xr_icmp_eq (tgt := 36) hx hb dX13_key_29 (by decide) (by omega) (by omega) (fun h_85 => ?_) (fun h_85 => ?_)
      · refine lv_iconst (v := iI 0) hx hb dX13_key_36 rfl ?_
        exact J37 0 H locs ls (by omega) hP hD hS hl
      · refine lv_iconst (v := iI 1) hx hb dX13_key_32 rfl ?_
        refine lv_goto (tgt := 37) hx hb dX13_key_33 (by decide) ?_
        exact J37 1 H locs ls (by omega) hP hD hS hl
    refine xr_icmp_ne (tgt := 28) hx hb dX13_key_21 (by decide) (by omega) (by omega) (fun h_86 => ?_) (fun h_86 => ?_)
    · refine lv_iconst (v := iI 0) hx hb dX13_key_28 rfl ?_
      exact J29 0 H locs ls (by omega) hP hD hS hl
    · refine lv_iconst (v := iI 1) hx hb dX13_key_24 rfl ?_
      refine lv_goto (tgt := 29) hx hb dX13_key_25 (by decide) ?_
      exact J29 1 H locs ls (by omega) hP hD hS hl
  refine xr_icmp_ne (tgt := 18) hx hb dX13_key_11 (by decide) (by omega) (by omega) (fun h_87 => ?_) (fun h_87 => ?_)
  · refine lv_iconst (v := iI 0) hx hb dX13_key_18 rfl ?_
    exact J19 0 H locs ls (by omega) hP hD hS hl
  · refine lv_iconst (v := iI 1) hx hb dX13_key_14 rfl ?_
    refine lv_goto (tgt := 19) hx hb dX13_key_15 (by decide) ?_
    exact J19 1 H locs ls (by omega) hP hD hS hl
