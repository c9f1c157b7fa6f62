set_option maxHeartbeats 2000000 in
set_option maxRecDepth 100000 in
theorem sX13_erratum (l : Launch) (dC : Nat → ClassId) (dI : Nat → Nat → Nat) (sz : Nat) (ad : Nat → Nat) (ca : Nat → ClassId) (g : Nat → Int) (a : Nat → Int → Int) (p1 : Int) (p2 : Int) (p3 : Int) (hI : mI g a) (q1 : rg p1) (q2 : rg p2) (q3 : rg p3) : Met l yX13_erratum (jk yX13_erratum cX13_erratum 4 (some .int)) ({ frames := 2, cells := 0, slots := 0, locals := 43 }) (va_Pc [.ref (ad 0), .int (iI p1), .int (iI p2), .int (iI p3)] (jw_P (dC, dI) (mG ad ca g a) (mT ca) sz)) (va_Qi (fun (r : Int32) (u : (Nat → Int) × (Nat → Int → Int)) => ∃ z : Int, r = iI z ∧ (mI u.1 u.2) ∧ (∀ j, j ∉ ([71] : List Nat) → u.1 j = g j) ∧ (∀ j, j ∉ ([55, 56, 57, 58] : List Nat) → u.2 j = a j) ∧ (rg z)) (fun u t => va_P (dC, dI) vwCl (mG ad ca u.1 u.2) t.heap ∧ va_K (dC, dI) vwCl (mT ca) t ∧ va_D (va_A (mG ad ca g a) sz) (mG ad ca u.1 u.2)) (va_A (mG ad ca g a) sz)) 0 0 (va_A (mG ad ca g a) sz) := by
  refine Met.ofW (cc := cX13_erratum) (maxL := 4) (ret := (some .int)) (by decide) rfl ?_
  intro p e s m args below meth c s₁ B hml hv
  obtain ⟨rfl, hsz, hP, hK, hD0⟩ := hv
  have hx := B.exec
  have hb := B.bytes
  have hr := B.returns
  have hts := atoms_spec (ws := (jk yX13_erratum cX13_erratum 4 (some .int))) B.pre
  have hj : ∀ w ∈ jw, w.before ([.ref (ad 0), .int (iI p1), .int (iI p2), .int (iI p3)] : List Value).toArray s = true := fun w h => hts w (jm h)
  have hown : s.vm.findClass RX13 = some m.cls := findClass_of_methodNamed B.named
  subst hsz
  have hD := hD0.self (sz := s.heap.size)
  generalize hAe : (va_A (mG ad ca g a) s.heap.size) = A at hD ⊢
  have hA : ∀ q : Nat, s.heap.size ≤ q → A q := fun q h => by rw [← hAe]; exact Or.inr h
  have hS : va_S A s.heap s.heap [] := va_S.rf
  have hP : va_P (dC, dI) vwCl (mG ad ca g a) s.heap := hP
  have hfA : ∀ j, j ∉ ([71] : List Nat) → g j = g j := fun _ _ => rfl
  have haA : ∀ j, j ∉ ([55, 56, 57, 58] : List Nat) → a j = a j := fun _ _ => rfl
  have hl := lv_entry ([.ref (ad 0), .int (iI p1), .int (iI p2), .int (iI p3)]) (n := 4) (Nat.le_of_ble_eq_true rfl)
  rw [lg_entry_eq]
  generalize (lg_sl ([.ref (ad 0), .int (iI p1), .int (iI p2), .int (iI p3)]) ++ List.replicate (4 - (lg_sl ([.ref (ad 0), .int (iI p1), .int (iI p2), .int (iI p3)])).length) Slot.unset).toArray = ls at hl ⊢
  have hl : lv_has ls 4 [(0, .ref (ad 0)), (1, .int (iI p1)), (2, .int (iI p2)), (3, .int (iI p3))] := hl
  generalize hQ : MQ below (va_Qi (fun (r : Int32) (u : (Nat → Int) × (Nat → Int → Int)) => ∃ z : Int, r = iI z ∧ (mI u.1 u.2) ∧ (∀ j, j ∉ ([71] : List Nat) → u.1 j = g j) ∧ (∀ j, j ∉ ([55, 56, 57, 58] : List Nat) → u.2 j = a j) ∧ (rg z)) (fun u t => va_P (dC, dI) vwCl (mG ad ca u.1 u.2) t.heap ∧ va_K (dC, dI) vwCl (mT ca) t ∧ va_D A (mG ad ca u.1 u.2)) A) ([.ref (ad 0), .int (iI p1), .int (iI p2), .int (iI p3)] : List Value).toArray s 0 0 A = Q
  suffices ST : ∀ (H : Heap) (locs : List Loc), va_P (dC, dI) vwCl (mG ad ca g a) H → va_S A s.heap H locs → W p l e ({ frames := 2, cells := 0, slots := 0, locals := 43 }) s m ([.ref (ad 0), .int (iI p1), .int (iI p2), .int (iI p3)] : List Value).toArray below meth c H locs 0 0 Q (F0 m 0 ls []) from ST _ _ hP hS
  clear hP hS
  intro H locs hP hS
  refine lv_aload_n hx hb dX13_erratum_0 rfl (lv_at hl 0 rfl) ?_
  refine lv_iload_n hx hb dX13_erratum_1 rfl (lv_at hl 1 rfl) ?_
  refine jc_i (va_runV (As := [.int (iI p1)]) (rest := []) ⟨hx, hb, hml, hown, hts⟩ (sX13_isLine l dC dI _ ad ca g a p1 hI (by omega)) (cwV 1 hts (jgoodV m_273 m_385 m_386 m_503 m_159) rfl rfl rfl (by decide +kernel) ⟨(Nat.le_of_ble_eq_true rfl), (Nat.le_of_ble_eq_true rfl)⟩) ⟨jw_blind, va_recv hK hP (ci := 13) (q0 := 0) rfl rfl, fun U hU hW => ⟨rfl, jw_of hU hW hP hK hD⟩⟩ rfl rfl hl.1 rfl (lv_room (Nat.le_of_ble_eq_true rfl)) dX13_erratum_2 ⟨(Nat.le_of_ble_eq_true rfl), (Nat.le_of_ble_eq_true rfl)⟩) hP hS hA (fun r_1 H locs w_2 hP hS => ?_)
  obtain ⟨z_3, rfl, h_4, h_5⟩ := w_2
  have b_6 : 0 ≤ g 56 ∧ g 56 ≤ 300 := hI.1 56
  refine xr_if_eq (tgt := 57) hx hb dX13_erratum_5 (by decide) (by omega) (fun h_7 => ?_) (fun h_7 => ?_)
  · refine lv_iconst (v := iI (-1)) hx hb dX13_erratum_57 rfl ?_
    rw [← hQ]
    exact W.iret (v := iI (-1)) hx hb hr (fun t ht hW => ⟨⟨iI (-1), (g, a), rfl, ⟨(-1), rfl, hI, hfA, haA, by omega⟩, by rw [ht]; exact hP, va_K.moved hW.alike hK, hD⟩, hS.F ht⟩) hS.2.2 dX13_erratum_58
  · refine lv_aload_n hx hb dX13_erratum_8 rfl (lv_at hl 0 rfl) ?_
    refine lv_iload_n hx hb dX13_erratum_9 rfl (lv_at hl 1 rfl) ?_
    refine jc_i (va_runV (As := [.int (iI p1)]) (rest := []) ⟨hx, hb, hml, hown, hts⟩ (sX13_isSetLine l dC dI _ ad ca g a p1 hI (by omega) (by omega)) (cwV 1 hts (jgoodV m_275 m_387 m_388 m_503 m_160) rfl rfl rfl (by decide +kernel) ⟨(Nat.le_of_ble_eq_true rfl), (Nat.le_of_ble_eq_true rfl)⟩) ⟨jw_blind, va_recv hK hP (ci := 13) (q0 := 0) rfl rfl, fun U hU hW => ⟨rfl, jw_of hU hW hP hK hD⟩⟩ rfl rfl hl.1 rfl (lv_room (Nat.le_of_ble_eq_true rfl)) dX13_erratum_10 ⟨(Nat.le_of_ble_eq_true rfl), (Nat.le_of_ble_eq_true rfl)⟩) hP hS hA (fun r_8 H locs w_9 hP hS => ?_)
    obtain ⟨z_10, rfl, h_11⟩ := w_9
    refine xr_if_eq (tgt := 57) hx hb dX13_erratum_13 (by decide) (by omega) (fun h_12 => ?_) (fun h_12 => ?_)
    · refine lv_iconst (v := iI (-1)) hx hb dX13_erratum_57 rfl ?_
      rw [← hQ]
      exact W.iret (v := iI (-1)) hx hb hr (fun t ht hW => ⟨⟨iI (-1), (g, a), rfl, ⟨(-1), rfl, hI, hfA, haA, by omega⟩, by rw [ht]; exact hP, va_K.moved hW.alike hK, hD⟩, hS.F ht⟩) hS.2.2 dX13_erratum_58
    · refine lv_aload_n hx hb dX13_erratum_16 rfl (lv_at hl 0 rfl) ?_
      refine gf_lineFact hx hb hj hown hK hP dX13_erratum_17 ?_
      refine lv_iload_n hx hb dX13_erratum_20 rfl (lv_at hl 1 rfl) ?_
      refine ld_lineFact hx hb hK hP hI (by omega) (by omega) dX13_erratum_21 (fun h_13 => ?_)
      refine lv_iconst (v := iI (-1)) hx hb dX13_erratum_22 rfl ?_
      refine xr_icmp_eq (tgt := 57) hx hb dX13_erratum_23 (by decide) (by omega) (by omega) (fun h_14 => ?_) (fun h_14 => ?_)
      · refine lv_iconst (v := iI (-1)) hx hb dX13_erratum_57 rfl ?_
        rw [← hQ]
        exact W.iret (v := iI (-1)) hx hb hr (fun t ht hW => ⟨⟨iI (-1), (g, a), rfl, ⟨(-1), rfl, hI, hfA, haA, by omega⟩, by rw [ht]; exact hP, va_K.moved hW.alike hK, hD⟩, hS.F ht⟩) hS.2.2 dX13_erratum_58
      · refine lv_iload_n hx hb dX13_erratum_26 rfl (lv_at hl 2 rfl) ?_
        refine lv_iconst (v := iI 0) hx hb dX13_erratum_27 rfl ?_
        refine lv_sipush (v := iI 999) hx hb dX13_erratum_28 rfl ?_
        refine jc_i (va_runS (As := [.int (iI p2), .int (iI 0), .int (iI 999)]) (rest := []) ⟨hx, hb, hml, hown, hts⟩ (sX13_in l dC dI _ p2 0 999 (by omega) (by omega) (by omega)) (va_cwS 3 hts (jgoodS m_220 m_364 m_503 m_147) rfl rfl rfl (by decide +kernel) ⟨(Nat.le_of_ble_eq_true rfl), (Nat.le_of_ble_eq_true rfl)⟩) ⟨jw_blind0, fun U hU hW => ⟨rfl, congrArg Array.size hU⟩⟩ rfl rfl hl.1 rfl (lv_room (Nat.le_of_ble_eq_true rfl)) dX13_erratum_31 ⟨(Nat.le_of_ble_eq_true rfl), (Nat.le_of_ble_eq_true rfl)⟩) hP hS hA (fun r_15 H locs w_16 hP hS => ?_)
        obtain ⟨z_17, rfl, h_18, h_19⟩ := w_16
        refine xr_if_eq (tgt := 57) hx hb dX13_erratum_34 (by decide) (by omega) (fun h_20 => ?_) (fun h_20 => ?_)
        · refine lv_iconst (v := iI (-1)) hx hb dX13_erratum_57 rfl ?_
          rw [← hQ]
          exact W.iret (v := iI (-1)) hx hb hr (fun t ht hW => ⟨⟨iI (-1), (g, a), rfl, ⟨(-1), rfl, hI, hfA, haA, by omega⟩, by rw [ht]; exact hP, va_K.moved hW.alike hK, hD⟩, hS.F ht⟩) hS.2.2 dX13_erratum_58
        · refine lv_iload_n hx hb dX13_erratum_37 rfl (lv_at hl 3 rfl) ?_
          refine lv_iconst (v := iI 0) hx hb dX13_erratum_38 rfl ?_
          refine lv_sipush (v := iI 999) hx hb dX13_erratum_39 rfl ?_
          refine jc_i (va_runS (As := [.int (iI p3), .int (iI 0), .int (iI 999)]) (rest := []) ⟨hx, hb, hml, hown, hts⟩ (sX13_in l dC dI _ p3 0 999 (by omega) (by omega) (by omega)) (va_cwS 3 hts (jgoodS m_220 m_364 m_503 m_147) rfl rfl rfl (by decide +kernel) ⟨(Nat.le_of_ble_eq_true rfl), (Nat.le_of_ble_eq_true rfl)⟩) ⟨jw_blind0, fun U hU hW => ⟨rfl, congrArg Array.size hU⟩⟩ rfl rfl hl.1 rfl (lv_room (Nat.le_of_ble_eq_true rfl)) dX13_erratum_42 ⟨(Nat.le_of_ble_eq_true rfl), (Nat.le_of_ble_eq_true rfl)⟩) hP hS hA (fun r_21 H locs w_22 hP hS => ?_)
          obtain ⟨z_23, rfl, h_24, h_25⟩ := w_22
          refine xr_if_eq (tgt := 57) hx hb dX13_erratum_45 (by decide) (by omega) (fun h_26 => ?_) (fun h_26 => ?_)
          · refine lv_iconst (v := iI (-1)) hx hb dX13_erratum_57 rfl ?_
            rw [← hQ]
            exact W.iret (v := iI (-1)) hx hb hr (fun t ht hW => ⟨⟨iI (-1), (g, a), rfl, ⟨(-1), rfl, hI, hfA, haA, by omega⟩, by rw [ht]; exact hP, va_K.moved hW.alike hK, hD⟩, hS.F ht⟩) hS.2.2 dX13_erratum_58
          · refine lv_aload_n hx hb dX13_erratum_48 rfl (lv_at hl 0 rfl) ?_
            refine gf_errata hx hb hj hown hK hP hI dX13_erratum_49 (fun h_27 => ?_)
            refine lv_bipush (v := iI 60) hx hb dX13_erratum_52 rfl ?_
            refine xr_icmp_ne (tgt := 59) hx hb dX13_erratum_54 (by decide) (by omega) (by omega) (fun h_28 => ?_) (fun h_28 => ?_)
            · refine lv_aload_n hx hb dX13_erratum_59 rfl (lv_at hl 0 rfl) ?_
              refine gf_errorLine hx hb hj hown hK hP dX13_erratum_60 ?_
              refine lv_aload_n hx hb dX13_erratum_63 rfl (lv_at hl 0 rfl) ?_
              refine gf_errata hx hb hj hown hK hP hI dX13_erratum_64 (fun h_29 => ?_)
              refine lv_iload_n hx hb dX13_erratum_67 rfl (lv_at hl 1 rfl) ?_
              refine st_errorLine hx hb hK hP hD hS hI (by omega) (by omega) (by omega) (by omega) dX13_erratum_68 (fun a_30 H locs e_31 e_32 hI hP hD hS => ?_)
              have haA : ∀ j, j ∉ ([55, 56, 57, 58] : List Nat) → a_30 j = a j := fun j h => (e_31 j (fun q => h (q ▸ (by decide : 55 ∈ ([55, 56, 57, 58] : List Nat))))).trans (haA j h)
              refine lv_aload_n hx hb dX13_erratum_69 rfl (lv_at hl 0 rfl) ?_
              refine gf_errorIs hx hb hj hown hK hP dX13_erratum_70 ?_
              refine lv_aload_n hx hb dX13_erratum_73 rfl (lv_at hl 0 rfl) ?_
              refine gf_errata hx hb hj hown hK hP hI dX13_erratum_74 (fun h_33 => ?_)
              refine lv_iload_n hx hb dX13_erratum_77 rfl (lv_at hl 2 rfl) ?_
              refine sa_errorIs hx hb hK hP hD hS hI (by omega) (by omega) dX13_erratum_78 (fun a_34 z_37 H locs h_38 h_39 e_35 e_36 hI hP hD hS => ?_)
              have haA : ∀ j, j ∉ ([55, 56, 57, 58] : List Nat) → a_34 j = a j := fun j h => (e_35 j (fun q => h (q ▸ (by decide : 56 ∈ ([55, 56, 57, 58] : List Nat))))).trans (haA j h)
              refine lv_aload_n hx hb dX13_erratum_79 rfl (lv_at hl 0 rfl) ?_
              refine gf_errorShould hx hb hj hown hK hP dX13_erratum_80 ?_
              refine lv_aload_n hx hb dX13_erratum_83 rfl (lv_at hl 0 rfl) ?_
              refine gf_errata hx hb hj hown hK hP hI dX13_erratum_84 (fun h_40 => ?_)
              refine lv_iload_n hx hb dX13_erratum_87 rfl (lv_at hl 3 rfl) ?_
              refine sa_errorShould hx hb hK hP hD hS hI (by omega) (by omega) dX13_erratum_88 (fun a_41 z_44 H locs h_45 h_46 e_42 e_43 hI hP hD hS => ?_)
              have haA : ∀ j, j ∉ ([55, 56, 57, 58] : List Nat) → a_41 j = a j := fun j h => (e_42 j (fun q => h (q ▸ (by decide : 57 ∈ ([55, 56, 57, 58] : List Nat))))).trans (haA j h)
              refine lv_aload_n hx hb dX13_erratum_89 rfl (lv_at hl 0 rfl) ?_
              refine gf_errorIn hx hb hj hown hK hP dX13_erratum_90 ?_
              refine lv_aload_n hx hb dX13_erratum_93 rfl (lv_at hl 0 rfl) ?_
              refine gf_errata hx hb hj hown hK hP hI dX13_erratum_94 (fun h_47 => ?_)
              refine lv_aload_n hx hb dX13_erratum_97 rfl (lv_at hl 0 rfl) ?_
              refine gf_now hx hb hj hown hK hP hI dX13_erratum_98 (fun h_48 => ?_)
              refine st_errorIn hx hb hK hP hD hS hI (by omega) (by omega) (by omega) (by omega) dX13_erratum_101 (fun a_49 H locs e_50 e_51 hI hP hD hS => ?_)
              have haA : ∀ j, j ∉ ([55, 56, 57, 58] : List Nat) → a_49 j = a j := fun j h => (e_50 j (fun q => h (q ▸ (by decide : 58 ∈ ([55, 56, 57, 58] : List Nat))))).trans (haA j h)
              refine lv_aload_n hx hb dX13_erratum_102 rfl (lv_at hl 0 rfl) ?_
              refine lv_dup hx hb dX13_erratum_103 rfl ?_
              refine gf_errata hx hb hj hown hK hP hI dX13_erratum_104 (fun h_52 => ?_)
              refine lv_iconst (v := iI 1) hx hb dX13_erratum_107 rfl ?_
              refine xr_add hx hb dX13_erratum_108 ?_
              refine pf_errata hx hb hj hown hK hP hD hS hI (by omega) (by omega) dX13_erratum_109 (fun g_53 H locs e_54 e_55 hI hP hD hS => ?_)
              have hfA : ∀ j, j ∉ ([71] : List Nat) → g_53 j = g j := fun j h => (e_54 j (fun q => h (q ▸ (by decide : 71 ∈ ([71] : List Nat))))).trans (hfA j h)
              have b_56 : g_53 30 = g 30 := hfA 30 (by decide)
              refine lv_aload_n hx hb dX13_erratum_112 rfl (lv_at hl 0 rfl) ?_
              refine gf_errata hx hb hj hown hK hP hI dX13_erratum_113 (fun h_57 => ?_)
              refine lv_iconst (v := iI 1) hx hb dX13_erratum_116 rfl ?_
              refine xr_sub hx hb dX13_erratum_117 ?_
              rw [← hQ]
              exact W.iret (v := iI ((g_53 71) - 1)) hx hb hr (fun t ht hW => ⟨⟨iI ((g_53 71) - 1), (g_53, a_49), rfl, ⟨(g_53 71) - 1, rfl, hI, hfA, haA, by omega⟩, by rw [ht]; exact hP, va_K.moved hW.alike hK, hD⟩, hS.F ht⟩) hS.2.2 dX13_erratum_118
            · refine lv_iconst (v := iI (-1)) hx hb dX13_erratum_57 rfl ?_
              rw [← hQ]
              exact W.iret (v := iI (-1)) hx hb hr (fun t ht hW => ⟨⟨iI (-1), (g, a), rfl, ⟨(-1), rfl, hI, hfA, haA, by omega⟩, by rw [ht]; exact hP, va_K.moved hW.alike hK, hD⟩, hS.F ht⟩) hS.2.2 dX13_erratum_58
set_option maxHeartbeats 2000000 in
set_option maxRecDepth 100000 in
theorem sX13_index (l : Launch) (dC : Nat → ClassId) (dI : Nat → Nat → Nat) (sz : Nat) (ad : Nat → Nat) (ca : Nat → ClassId) (g : Nat → Int) (a : Nat → Int → Int) (p1 : Int) (p2 : Int) (p3 : Int) (hI : mI g a) (q1 : rg p1) (q2 : rg p2) (q3 : rg p3) : Met l yX13_index (jk yX13_index cX13_index 9 (some .int)) ({ frames := 2, cells := 0, slots := 0, locals := 42 }) (va_Pc [.ref (ad 0), .int (iI p1), .int (iI p2), .int (iI p3)] (jw_P (dC, dI) (mG ad ca g a) (mT ca) sz)) (va_Qi (fun (r : Int32) (_ : Unit) => ∃ z : Int, r = iI z ∧ (rg z)) (fun _ _ => True) (va_A [] sz)) 0 0 (va_A [] sz) := by
  refine Met.ofW (cc := cX13_index) (maxL := 9) (ret := (some .int)) (by decide) rfl ?_
  intro p e s m args below meth c s₁ B hml hv
  obtain ⟨rfl, hsz, hP, hK, hD0⟩ := hv
  have hx := B.exec
  have hb := B.bytes
  have hr := B.returns
  have hts := atoms_spec (ws := (jk yX13_index cX13_index 9 (some .int))) B.pre
  have hj : ∀ w ∈ jw, w.before ([.ref (ad 0), .int (iI p1), .int (iI p2), .int (iI p3)] : List Value).toArray s = true := fun w h => hts w (jm h)
  have hown : s.vm.findClass RX13 = some m.cls := findClass_of_methodNamed B.named
  subst hsz
  have hD := hD0
  generalize hAe : (va_A [] s.heap.size) = A
  have hA : ∀ q : Nat, s.heap.size ≤ q → A q := fun q h => by rw [← hAe]; exact Or.inr h
  have hS : va_S A s.heap s.heap [] := va_S.rf
  have hP : va_P (dC, dI) vwCl (mG ad ca g a) s.heap := hP
  have hl := lv_entry ([.ref (ad 0), .int (iI p1), .int (iI p2), .int (iI p3)]) (n := 9) (Nat.le_of_ble_eq_true rfl)
  rw [lg_entry_eq]
  generalize (lg_sl ([.ref (ad 0), .int (iI p1), .int (iI p2), .int (iI p3)]) ++ List.replicate (9 - (lg_sl ([.ref (ad 0), .int (iI p1), .int (iI p2), .int (iI p3)])).length) Slot.unset).toArray = ls at hl ⊢
  have hl : lv_has ls 9 [(0, .ref (ad 0)), (1, .int (iI p1)), (2, .int (iI p2)), (3, .int (iI p3))] := hl
  generalize hQ : MQ below (va_Qi (fun (r : Int32) (_ : Unit) => ∃ z : Int, r = iI z ∧ (rg z)) (fun _ _ => True) A) ([.ref (ad 0), .int (iI p1), .int (iI p2), .int (iI p3)] : List Value).toArray s 0 0 A = Q
  suffices ST : ∀ (H : Heap) (locs : List Loc), va_P (dC, dI) vwCl (mG ad ca g a) H → va_S A s.heap H locs → W p l e ({ frames := 2, cells := 0, slots := 0, locals := 42 }) s m ([.ref (ad 0), .int (iI p1), .int (iI p2), .int (iI p3)] : List Value).toArray below meth c H locs 0 0 Q (F0 m 0 ls []) from ST _ _ hP hS
  clear hP hS
  intro H locs hP hS
  refine lv_iload_n hx hb dX13_index_0 rfl (lv_at hl 2 rfl) ?_
  refine jc_i (va_runS (As := [.int (iI p2)]) (rest := []) ⟨hx, hb, hml, hown, hts⟩ (sX13_isVolume l dC dI _ p2 (by omega)) (va_cwS 1 hts (jgoodS m_243 m_395 m_503 m_164) rfl rfl rfl (by decide +kernel) ⟨(Nat.le_of_ble_eq_true rfl), (Nat.le_of_ble_eq_true rfl)⟩) ⟨jw_blind0, fun U hU hW => ⟨rfl, congrArg Array.size hU⟩⟩ rfl rfl hl.1 rfl (lv_room (Nat.le_of_ble_eq_true rfl)) dX13_index_1 ⟨(Nat.le_of_ble_eq_true rfl), (Nat.le_of_ble_eq_true rfl)⟩) hP hS hA (fun r_1 H locs w_2 hP hS => ?_)
  obtain ⟨z_3, rfl, h_4, h_5⟩ := w_2
  refine xr_if_eq (tgt := 20) hx hb dX13_index_4 (by decide) (by omega) (fun h_6 => ?_) (fun h_6 => ?_)
  · refine lv_iconst (v := iI (-1)) hx hb dX13_index_20 rfl ?_
    rw [← hQ]
    exact W.iret (v := iI (-1)) hx hb hr (fun t ht hW => ⟨⟨iI (-1), (), rfl, ⟨(-1), rfl, by omega⟩, trivial⟩, hS.F ht⟩) hS.2.2 dX13_index_21
  · refine lv_aload_n hx hb dX13_index_7 rfl (lv_at hl 0 rfl) ?_
    refine gf_isSet hx hb hj hown hK hP dX13_index_8 ?_
    refine lv_iload_n hx hb dX13_index_11 rfl (lv_at hl 2 rfl) ?_
    refine ld_isSet hx hb hK hP hI (by omega) (by omega) dX13_index_12 (fun h_7 => ?_)
    refine xr_if_eq (tgt := 20) hx hb dX13_index_13 (by decide) (by omega) (fun h_8 => ?_) (fun h_8 => ?_)
    · refine lv_iconst (v := iI (-1)) hx hb dX13_index_20 rfl ?_
      rw [← hQ]
      exact W.iret (v := iI (-1)) hx hb hr (fun t ht hW => ⟨⟨iI (-1), (), rfl, ⟨(-1), rfl, by omega⟩, trivial⟩, hS.F ht⟩) hS.2.2 dX13_index_21
    · refine lv_iload_n hx hb dX13_index_16 rfl (lv_at hl 3 rfl) ?_
      refine xr_if_ge (tgt := 22) hx hb dX13_index_17 (by decide) (by omega) (fun h_9 => ?_) (fun h_9 => ?_)
      · refine lv_iload_n hx hb dX13_index_22 rfl (lv_at hl 3 rfl) ?_
        refine lv_istore (lv' := [(4, .int (iI p3)), (0, .ref (ad 0)), (1, .int (iI p1)), (2, .int (iI p2)), (3, .int (iI p3))]) hx hb dX13_index_23 hl (by decide) rfl (fun ls hl => ?_)
        refine lv_aload_n hx hb dX13_index_25 rfl (lv_at hl 1 rfl) ?_
        refine gf_setLines hx hb hj hown hK hP dX13_index_26 ?_
        refine lv_iload_n hx hb dX13_index_29 rfl (lv_at hl 3 rfl) ?_
        refine ld_setLines hx hb hK hP hI (by omega) (by omega) dX13_index_30 (fun h_10 => ?_)
        refine lv_bipush (v := iI 40) hx hb dX13_index_31 rfl ?_
        refine xr_add hx hb dX13_index_33 ?_
        refine lv_iconst (v := iI 1) hx hb dX13_index_34 rfl ?_
        refine xr_sub hx hb dX13_index_35 ?_
        refine lv_bipush (v := iI 40) hx hb dX13_index_36 rfl ?_
        refine xr_div hx hb dX13_index_38 (by omega) (by omega) (by omega) (by omega) ?_
        refine lv_istore (lv' := [(5, .int (iI ((((a 24 p2) + 40) - 1) / 40))), (4, .int (iI p3)), (0, .ref (ad 0)), (1, .int (iI p1)), (2, .int (iI p2)), (3, .int (iI p3))]) hx hb dX13_index_39 hl (by decide) rfl (fun ls hl => ?_)
        refine lv_iconst (v := iI 1) hx hb dX13_index_41 rfl ?_
        refine lv_istore (lv' := [(6, .int (iI 1)), (5, .int (iI ((((a 24 p2) + 40) - 1) / 40))), (4, .int (iI p3)), (0, .ref (ad 0)), (1, .int (iI p1)), (2, .int (iI p2)), (3, .int (iI p3))]) hx hb dX13_index_42 hl (by decide) rfl (fun ls hl => ?_)
        have L44 : ∀ (n44 : Nat) (v6_44 v4_44 : Int) (H : Heap) (locs : List Loc) (ls : Array Slot), (1 ≤ v6_44 ∧ v6_44 ≤ 2147483647) → (0 ≤ v4_44 ∧ v4_44 ≤ 2147483647) → (0 < (n44 : Int) ∧ (((a 24 p2) + 40) - 1) / 40 - v6_44 + 1 < (n44 : Int)) → va_P (dC, dI) vwCl (mG ad ca g a) H → va_S A s.heap H locs → lv_has ls 9 [(6, .int (iI v6_44)), (5, .int (iI ((((a 24 p2) + 40) - 1) / 40))), (4, .int (iI v4_44)), (0, .ref (ad 0)), (1, .int (iI p1)), (2, .int (iI p2)), (3, .int (iI p3))] → W p l e ({ frames := 2, cells := 0, slots := 0, locals := 42 }) s m ([.ref (ad 0), .int (iI p1), .int (iI p2), .int (iI p3)] : List Value).toArray below meth c H locs 0 0 Q (F0 m 44 ls []) := by
          intro n44
          induction n44 with
          | zero =>
            intro v6_44 v4_44 H locs ls h_11 h_12 hm44 hP hS hl
            exfalso; omega
          | succ n44 ih44 =>
            intro v6_44 v4_44 H locs ls h_13 h_14 hm44 hP hS hl
            refine lv_iload hx hb dX13_index_44 (lv_at hl 0 rfl) ?_
            refine lv_iload hx hb dX13_index_46 (lv_at hl 1 rfl) ?_
            refine xr_icmp_gt (tgt := 148) hx hb dX13_index_48 (by decide) (by omega) (by omega) (fun h_15 => ?_) (fun h_15 => ?_)
            · refine lv_iconst (v := iI (-1)) hx hb dX13_index_148 rfl ?_
              rw [← hQ]
              exact W.iret (v := iI (-1)) hx hb hr (fun t ht hW => ⟨⟨iI (-1), (), rfl, ⟨(-1), rfl, by omega⟩, trivial⟩, hS.F ht⟩) hS.2.2 dX13_index_149
            · refine lv_iconst (v := iI 0) hx hb dX13_index_51 rfl ?_
              refine lv_istore (lv' := [(7, .int (iI 0)), (6, .int (iI v6_44)), (5, .int (iI ((((a 24 p2) + 40) - 1) / 40))), (4, .int (iI v4_44)), (0, .ref (ad 0)), (1, .int (iI p1)), (2, .int (iI p2)), (3, .int (iI p3))]) hx hb dX13_index_52 hl (by decide) rfl (fun ls hl => ?_)
              refine lv_iconst (v := iI 0) hx hb dX13_index_54 rfl ?_
              refine lv_istore (lv' := [(8, .int (iI 0)), (7, .int (iI 0)), (6, .int (iI v6_44)), (5, .int (iI ((((a 24 p2) + 40) - 1) / 40))), (4, .int (iI v4_44)), (0, .ref (ad 0)), (1, .int (iI p1)), (2, .int (iI p2)), (3, .int (iI p3))]) hx hb dX13_index_55 hl (by decide) rfl (fun ls hl => ?_)
              have L57 : ∀ (n57 : Nat) (v8_57 v7_57 : Int) (H : Heap) (locs : List Loc) (ls : Array Slot), (0 ≤ v8_57 ∧ v8_57 ≤ 2147483647) → (0 ≤ v7_57 ∧ v7_57 ≤ 1) → (0 < (n57 : Int) ∧ (g 56) - v8_57 < (n57 : Int)) → va_P (dC, dI) vwCl (mG ad ca g a) H → va_S A s.heap H locs → lv_has ls 9 [(8, .int (iI v8_57)), (7, .int (iI v7_57)), (6, .int (iI v6_44)), (5, .int (iI ((((a 24 p2) + 40) - 1) / 40))), (4, .int (iI v4_44)), (0, .ref (ad 0)), (1, .int (iI p1)), (2, .int (iI p2)), (3, .int (iI p3))] → W p l e ({ frames := 2, cells := 0, slots := 0, locals := 42 }) s m ([.ref (ad 0), .int (iI p1), .int (iI p2), .int (iI p3)] : List Value).toArray below meth c H locs 0 0 Q (F0 m 57 ls []) := by
                intro n57
                induction n57 with
                | zero =>
                  intro v8_57 v7_57 H locs ls h_16 h_17 hm57 hP hS hl
                  exfalso; omega
                | succ n57 ih57 =>
                  intro v8_57 v7_57 H locs ls h_18 h_19 hm57 hP hS hl
                  refine lv_iload hx hb dX13_index_57 (lv_at hl 0 rfl) ?_
                  refine lv_aload_n hx hb dX13_index_59 rfl (lv_at hl 5 rfl) ?_
                  refine gf_lines hx hb hj hown hK hP hI dX13_index_60 (fun h_20 => ?_)
                  have J123 : ∀ (H : Heap) (locs : List Loc) (ls : Array Slot), va_P (dC, dI) vwCl (mG ad ca g a) H → va_S A s.heap H locs → lv_has ls 9 [(8, .int (iI v8_57)), (7, .int (iI v7_57)), (6, .int (iI v6_44)), (5, .int (iI ((((a 24 p2) + 40) - 1) / 40))), (4, .int (iI v4_44)), (0, .ref (ad 0)), (1, .int (iI p1)), (2, .int (iI p2)), (3, .int (iI p3))] → W p l e ({ frames := 2, cells := 0, slots := 0, locals := 42 }) s m ([.ref (ad 0), .int (iI p1), .int (iI p2), .int (iI p3)] : List Value).toArray below meth c H locs 0 0 Q (F0 m 123 ls []) := by
                    intro H locs ls hP hS hl
                    refine lv_iload hx hb dX13_index_123 (lv_at hl 1 rfl) ?_
                    have J142 : ∀ (v4_142 : Int) (H : Heap) (locs : List Loc) (ls : Array Slot), (0 ≤ v4_142 ∧ v4_142 ≤ 2147483647) → va_P (dC, dI) vwCl (mG ad ca g a) H → va_S A s.heap H locs → lv_has ls 9 [(8, .int (iI v8_57)), (7, .int (iI v7_57)), (6, .int (iI v6_44)), (5, .int (iI ((((a 24 p2) + 40) - 1) / 40))), (4, .int (iI v4_142)), (0, .ref (ad 0)), (1, .int (iI p1)), (2, .int (iI p2)), (3, .int (iI p3))] → W p l e ({ frames := 2, cells := 0, slots := 0, locals := 42 }) s m ([.ref (ad 0), .int (iI p1), .int (iI p2), .int (iI p3)] : List Value).toArray below meth c H locs 0 0 Q (F0 m 142 ls []) := by
                      intro v4_142 H locs ls h_21 hP hS hl
                      refine lv_iinc (v := iI (v6_44 + 1)) (lv' := [(6, .int (iI (v6_44 + 1))), (8, .int (iI v8_57)), (7, .int (iI v7_57)), (5, .int (iI ((((a 24 p2) + 40) - 1) / 40))), (4, .int (iI v4_142)), (0, .ref (ad 0)), (1, .int (iI p1)), (2, .int (iI p2)), (3, .int (iI p3))]) hx hb dX13_index_142 hl (k := 2) rfl (iI_add _ _) (by decide) rfl (fun ls hl => ?_)
                      refine lv_goto (tgt := 44) hx hb dX13_index_145 (by decide) ?_
                      exact ih44 (v6_44 + 1) v4_142 H locs ls (by omega) (by omega) (by omega) hP hS (lv_sub hl [0, 3, 4, 5, 6, 7, 8] rfl)
                    refine xr_if_ne (tgt := 131) hx hb dX13_index_125 (by decide) (by omega) (fun h_22 => ?_) (fun h_22 => ?_)
                    · refine lv_iload hx hb dX13_index_131 (lv_at hl 4 rfl) ?_
                      refine xr_if_ne (tgt := 139) hx hb dX13_index_133 (by decide) (by omega) (fun h_23 => ?_) (fun h_23 => ?_)
                      · refine lv_iinc (v := iI (v4_44 + (-1))) (lv' := [(4, .int (iI (v4_44 + (-1)))), (8, .int (iI v8_57)), (7, .int (iI v7_57)), (6, .int (iI v6_44)), (5, .int (iI ((((a 24 p2) + 40) - 1) / 40))), (0, .ref (ad 0)), (1, .int (iI p1)), (2, .int (iI p2)), (3, .int (iI p3))]) hx hb dX13_index_139 hl (k := 4) rfl (iI_add _ _) (by decide) rfl (fun ls hl => ?_)
                        exact J142 (v4_44 + (-1)) H locs ls (by omega) hP hS (lv_sub hl [1, 2, 3, 4, 0, 5, 6, 7, 8] rfl)
                      · refine lv_iload hx hb dX13_index_136 (lv_at hl 2 rfl) ?_
                        rw [← hQ]
                        exact W.iret (v := iI v6_44) hx hb hr (fun t ht hW => ⟨⟨iI v6_44, (), rfl, ⟨v6_44, rfl, by omega⟩, trivial⟩, hS.F ht⟩) hS.2.2 dX13_index_138
                    · refine lv_goto (tgt := 142) hx hb dX13_index_128 (by decide) ?_
                      exact J142 v4_44 H locs ls (by omega) hP hS hl
                  refine xr_icmp_ge (tgt := 123) hx hb dX13_index_63 (by decide) (by omega) (by omega) (fun h_24 => ?_) (fun h_24 => ?_)
                  · exact J123 H locs ls hP hS hl
                  · refine lv_iload hx hb dX13_index_66 (lv_at hl 1 rfl) ?_
                    refine xr_if_ne (tgt := 123) hx hb dX13_index_68 (by decide) (by omega) (fun h_25 => ?_) (fun h_25 => ?_)
                    · exact J123 H locs ls hP hS hl
                    · refine lv_aload_n hx hb dX13_index_71 rfl (lv_at hl 5 rfl) ?_
                      refine gf_setWith hx hb hj hown hK hP dX13_index_72 ?_
                      refine lv_aload_n hx hb dX13_index_75 rfl (lv_at hl 5 rfl) ?_
                      refine gf_lineOf hx hb hj hown hK hP dX13_index_76 ?_
                      refine lv_iload hx hb dX13_index_79 (lv_at hl 0 rfl) ?_
                      refine ld_lineOf hx hb hK hP hI (by omega) (by omega) dX13_index_81 (fun h_26 => ?_)
                      refine ld_setWith hx hb hK hP hI (by omega) (by omega) dX13_index_82 (fun h_27 => ?_)
                      refine lv_iload_n hx hb dX13_index_83 rfl (lv_at hl 7 rfl) ?_
                      have J115 : ∀ (s0_115 : Int) (H : Heap) (locs : List Loc) (ls : Array Slot), (0 ≤ s0_115 ∧ s0_115 ≤ 1) → va_P (dC, dI) vwCl (mG ad ca g a) H → va_S A s.heap H locs → lv_has ls 9 [(8, .int (iI v8_57)), (7, .int (iI v7_57)), (6, .int (iI v6_44)), (5, .int (iI ((((a 24 p2) + 40) - 1) / 40))), (4, .int (iI v4_44)), (0, .ref (ad 0)), (1, .int (iI p1)), (2, .int (iI p2)), (3, .int (iI p3))] → W p l e ({ frames := 2, cells := 0, slots := 0, locals := 42 }) s m ([.ref (ad 0), .int (iI p1), .int (iI p2), .int (iI p3)] : List Value).toArray below meth c H locs 0 0 Q (F0 m 115 ls [.int (iI s0_115)]) := by
                        intro s0_115 H locs ls h_28 hP hS hl
                        refine lv_istore (lv' := [(7, .int (iI s0_115)), (8, .int (iI v8_57)), (6, .int (iI v6_44)), (5, .int (iI ((((a 24 p2) + 40) - 1) / 40))), (4, .int (iI v4_44)), (0, .ref (ad 0)), (1, .int (iI p1)), (2, .int (iI p2)), (3, .int (iI p3))]) hx hb dX13_index_115 hl (by decide) rfl (fun ls hl => ?_)
                        refine lv_iinc (v := iI (v8_57 + 1)) (lv' := [(8, .int (iI (v8_57 + 1))), (7, .int (iI s0_115)), (6, .int (iI v6_44)), (5, .int (iI ((((a 24 p2) + 40) - 1) / 40))), (4, .int (iI v4_44)), (0, .ref (ad 0)), (1, .int (iI p1)), (2, .int (iI p2)), (3, .int (iI p3))]) hx hb dX13_index_117 hl (k := 1) rfl (iI_add _ _) (by decide) rfl (fun ls hl => ?_)
                        refine lv_goto (tgt := 57) hx hb dX13_index_120 (by decide) ?_
                        exact ih57 (v8_57 + 1) s0_115 H locs ls (by omega) (by omega) (by omega) hP hS hl
                      have J114 : ∀ (H : Heap) (locs : List Loc) (ls : Array Slot), va_P (dC, dI) vwCl (mG ad ca g a) H → va_S A s.heap H locs → lv_has ls 9 [(8, .int (iI v8_57)), (7, .int (iI v7_57)), (6, .int (iI v6_44)), (5, .int (iI ((((a 24 p2) + 40) - 1) / 40))), (4, .int (iI v4_44)), (0, .ref (ad 0)), (1, .int (iI p1)), (2, .int (iI p2)), (3, .int (iI p3))] → W p l e ({ frames := 2, cells := 0, slots := 0, locals := 42 }) s m ([.ref (ad 0), .int (iI p1), .int (iI p2), .int (iI p3)] : List Value).toArray below meth c H locs 0 0 Q (F0 m 114 ls []) := by
                        intro H locs ls hP hS hl
                        refine lv_iconst (v := iI 0) hx hb dX13_index_114 rfl ?_
                        exact J115 0 H locs ls (by omega) hP hS hl
                      refine xr_icmp_ne (tgt := 114) hx hb dX13_index_84 (by decide) (by omega) (by omega) (fun h_29 => ?_) (fun h_29 => ?_)
                      · exact J114 H locs ls hP hS hl
                      · refine lv_aload_n hx hb dX13_index_87 rfl (lv_at hl 5 rfl) ?_
                        refine gf_linePage hx hb hj hown hK hP dX13_index_88 ?_
                        refine lv_iload hx hb dX13_index_91 (lv_at hl 0 rfl) ?_
                        refine ld_linePage hx hb hK hP hI (by omega) (by omega) dX13_index_93 (fun h_30 => ?_)
                        refine lv_iload hx hb dX13_index_94 (lv_at hl 2 rfl) ?_
                        refine xr_icmp_ne (tgt := 114) hx hb dX13_index_96 (by decide) (by omega) (by omega) (fun h_31 => ?_) (fun h_31 => ?_)
                        · exact J114 H locs ls hP hS hl
                        · refine lv_aload_n hx hb dX13_index_99 rfl (lv_at hl 5 rfl) ?_
                          refine gf_lineTerm hx hb hj hown hK hP dX13_index_100 ?_
                          refine lv_iload hx hb dX13_index_103 (lv_at hl 0 rfl) ?_
                          refine ld_lineTerm hx hb hK hP hI (by omega) (by omega) dX13_index_105 (fun h_32 => ?_)
                          refine lv_iload_n hx hb dX13_index_106 rfl (lv_at hl 6 rfl) ?_
                          refine xr_icmp_ne (tgt := 114) hx hb dX13_index_107 (by decide) (by omega) (by omega) (fun h_33 => ?_) (fun h_33 => ?_)
                          · exact J114 H locs ls hP hS hl
                          · refine lv_iconst (v := iI 1) hx hb dX13_index_110 rfl ?_
                            refine lv_goto (tgt := 115) hx hb dX13_index_111 (by decide) ?_
                            exact J115 1 H locs ls (by omega) hP hS hl
              exact L57 ((((g 56) - 0 : Int)).toNat + 1) 0 0 H locs ls (by omega) (by omega) (by omega) hP hS hl
        exact L44 ((((((a 24 p2) + 40) - 1) / 40 - 1 + 1 : Int)).toNat + 1) 1 p3 H locs ls (by omega) (by omega) (by omega) hP hS hl
      · refine lv_iconst (v := iI (-1)) hx hb dX13_index_20 rfl ?_
        rw [← hQ]
        exact W.iret (v := iI (-1)) hx hb hr (fun t ht hW => ⟨⟨iI (-1), (), rfl, ⟨(-1), rfl, by omega⟩, trivial⟩, hS.F ht⟩) hS.2.2 dX13_index_21
set_option maxHeartbeats 2000000 in
set_option maxRecDepth 100000 in
theorem sX13_keeps (l : Launch) (dC : Nat → ClassId) (dI : Nat → Nat → Nat) (sz : Nat) (ad : Nat → Nat) (ca : Nat → ClassId) (g : Nat → Int) (a : Nat → Int → Int) (p1 : Int) (p2 : Int) (p3 : Int) (hI : mI g a) (q1 : rg p1) (q2 : rg p2) (q3 : rg p3) (k1 : 0 ≤ p1 ∧ p1 < 300) : Met l yX13_keeps (jk yX13_keeps cX13_keeps 6 (some .int)) ({ frames := 0, cells := 0, slots := 0, locals := 0 }) (va_Pc [.ref (ad 0), .int (iI p1), .int (iI p2), .int (iI p3)] (jw_P (dC, dI) (mG ad ca g a) (mT ca) sz)) (va_Qi (fun (r : Int32) (u : (Nat → Int) × (Nat → Int → Int)) => ∃ z : Int, r = iI z ∧ (mI u.1 u.2) ∧ (∀ j, j ∉ ([86] : List Nat) → u.1 j = g j) ∧ (∀ j, j ∉ ([] : List Nat) → u.2 j = a j) ∧ (rg z)) (fun u t => va_P (dC, dI) vwCl (mG ad ca u.1 u.2) t.heap ∧ va_K (dC, dI) vwCl (mT ca) t ∧ va_D (va_A (mG ad ca g a) sz) (mG ad ca u.1 u.2)) (va_A (mG ad ca g a) sz)) 0 0 (va_A (mG ad ca g a) sz) := by
  refine Met.ofW (cc := cX13_keeps) (maxL := 6) (ret := (some .int)) (by decide) rfl ?_
  intro p e s m args below meth c s₁ B hml hv
  obtain ⟨rfl, hsz, hP, hK, hD0⟩ := hv
  have hx := B.exec
  have hb := B.bytes
  have hr := B.returns
  have hts := atoms_spec (ws := (jk yX13_keeps cX13_keeps 6 (some .int))) B.pre
  have hj : ∀ w ∈ jw, w.before ([.ref (ad 0), .int (iI p1), .int (iI p2), .int (iI p3)] : List Value).toArray s = true := fun w h => hts w (jm h)
  have hown : s.vm.findClass RX13 = some m.cls := findClass_of_methodNamed B.named
  subst hsz
  have hD := hD0.self (sz := s.heap.size)
  generalize hAe : (va_A (mG ad ca g a) s.heap.size) = A at hD ⊢
  have hA : ∀ q : Nat, s.heap.size ≤ q → A q := fun q h => by rw [← hAe]; exact Or.inr h
  have hS : va_S A s.heap s.heap [] := va_S.rf
  have hP : va_P (dC, dI) vwCl (mG ad ca g a) s.heap := hP
  have hfA : ∀ j, j ∉ ([86] : List Nat) → g j = g j := fun _ _ => rfl
  have haA : ∀ j, j ∉ ([] : List Nat) → a j = a j := fun _ _ => rfl
  have hl := lv_entry ([.ref (ad 0), .int (iI p1), .int (iI p2), .int (iI p3)]) (n := 6) (Nat.le_of_ble_eq_true rfl)
  rw [lg_entry_eq]
  generalize (lg_sl ([.ref (ad 0), .int (iI p1), .int (iI p2), .int (iI p3)]) ++ List.replicate (6 - (lg_sl ([.ref (ad 0), .int (iI p1), .int (iI p2), .int (iI p3)])).length) Slot.unset).toArray = ls at hl ⊢
  have hl : lv_has ls 6 [(0, .ref (ad 0)), (1, .int (iI p1)), (2, .int (iI p2)), (3, .int (iI p3))] := hl
  generalize hQ : MQ below (va_Qi (fun (r : Int32) (u : (Nat → Int) × (Nat → Int → Int)) => ∃ z : Int, r = iI z ∧ (mI u.1 u.2) ∧ (∀ j, j ∉ ([86] : List Nat) → u.1 j = g j) ∧ (∀ j, j ∉ ([] : List Nat) → u.2 j = a j) ∧ (rg z)) (fun u t => va_P (dC, dI) vwCl (mG ad ca u.1 u.2) t.heap ∧ va_K (dC, dI) vwCl (mT ca) t ∧ va_D A (mG ad ca u.1 u.2)) A) ([.ref (ad 0), .int (iI p1), .int (iI p2), .int (iI p3)] : List Value).toArray s 0 0 A = Q
  suffices ST : ∀ (H : Heap) (locs : List Loc), va_P (dC, dI) vwCl (mG ad ca g a) H → va_S A s.heap H locs → W p l e ({ frames := 0, cells := 0, slots := 0, locals := 0 }) s m ([.ref (ad 0), .int (iI p1), .int (iI p2), .int (iI p3)] : List Value).toArray below meth c H locs 0 0 Q (F0 m 0 ls []) from ST _ _ hP hS
  clear hP hS
  intro H locs hP hS
  refine lv_aload_n hx hb dX13_keeps_0 rfl (lv_at hl 0 rfl) ?_
  refine gf_lineKeeps hx hb hj hown hK hP dX13_keeps_1 ?_
  refine lv_iload_n hx hb dX13_keeps_4 rfl (lv_at hl 1 rfl) ?_
  refine ld_lineKeeps hx hb hK hP hI (by omega) (by omega) dX13_keeps_5 (fun h_1 => ?_)
  refine lv_istore (lv' := [(4, .int (iI (a 46 p1))), (0, .ref (ad 0)), (1, .int (iI p1)), (2, .int (iI p2)), (3, .int (iI p3))]) hx hb dX13_keeps_6 hl (by decide) rfl (fun ls hl => ?_)
  refine lv_iconst (v := iI 0) hx hb dX13_keeps_8 rfl ?_
  refine lv_istore (lv' := [(5, .int (iI 0)), (4, .int (iI (a 46 p1))), (0, .ref (ad 0)), (1, .int (iI p1)), (2, .int (iI p2)), (3, .int (iI p3))]) hx hb dX13_keeps_9 hl (by decide) rfl (fun ls hl => ?_)
  have L11 : ∀ (n11 : Nat) (v5_11 v4_11 : Int) (g_11 : Nat → Int) (H : Heap) (locs : List Loc) (ls : Array Slot), (0 ≤ v5_11 ∧ v5_11 ≤ 2147483647) → ((-2147483648) ≤ v4_11 ∧ v4_11 ≤ 2147483647) → (mI g_11 a) → (∀ j, j ∉ ([86] : List Nat) → g_11 j = g j) → (0 < (n11 : Int) ∧ (g_11 71) - v5_11 < (n11 : Int)) → va_P (dC, dI) vwCl (mG ad ca g_11 a) H → va_D A (mG ad ca g_11 a) → va_S A s.heap H locs → lv_has ls 6 [(5, .int (iI v5_11)), (4, .int (iI v4_11)), (0, .ref (ad 0)), (1, .int (iI p1)), (2, .int (iI p2)), (3, .int (iI p3))] → W p l e ({ frames := 0, cells := 0, slots := 0, locals := 0 }) s m ([.ref (ad 0), .int (iI p1), .int (iI p2), .int (iI p3)] : List Value).toArray below meth c H locs 0 0 Q (F0 m 11 ls []) := by
    intro n11
    induction n11 with
    | zero =>
      intro v5_11 v4_11 g_11 H locs ls h_2 h_3 hI hfA hm11 hP hD hS hl
      have b_4 : g_11 71 = g 71 := hfA 71 (by decide)
      exfalso; omega
    | succ n11 ih11 =>
      intro v5_11 v4_11 g_11 H locs ls h_5 h_6 hI hfA hm11 hP hD hS hl
      have b_7 : g_11 71 = g 71 := hfA 71 (by decide)
      refine lv_iload hx hb dX13_keeps_11 (lv_at hl 0 rfl) ?_
      refine lv_aload_n hx hb dX13_keeps_13 rfl (lv_at hl 2 rfl) ?_
      refine gf_errata hx hb hj hown hK hP hI dX13_keeps_14 (fun h_8 => ?_)
      refine xr_icmp_ge (tgt := 99) hx hb dX13_keeps_17 (by decide) (by omega) (by omega) (fun h_9 => ?_) (fun h_9 => ?_)
      · refine lv_iload hx hb dX13_keeps_99 (lv_at hl 1 rfl) ?_
        rw [← hQ]
        exact W.iret (v := iI v4_11) hx hb hr (fun t ht hW => ⟨⟨iI v4_11, (g_11, a), rfl, ⟨v4_11, rfl, hI, hfA, haA, by omega⟩, by rw [ht]; exact hP, va_K.moved hW.alike hK, hD⟩, hS.F ht⟩) hS.2.2 dX13_keeps_101
      · refine lv_aload_n hx hb dX13_keeps_20 rfl (lv_at hl 2 rfl) ?_
        refine gf_errorLine hx hb hj hown hK hP dX13_keeps_21 ?_
        refine lv_iload hx hb dX13_keeps_24 (lv_at hl 0 rfl) ?_
        refine ld_errorLine hx hb hK hP hI (by omega) (by omega) dX13_keeps_26 (fun h_10 => ?_)
        refine lv_iload_n hx hb dX13_keeps_27 rfl (lv_at hl 3 rfl) ?_
        have J93 : ∀ (v4_93 : Int) (g_93 : Nat → Int) (H : Heap) (locs : List Loc) (ls : Array Slot), ((-2147483648) ≤ v4_93 ∧ v4_93 ≤ 2147483647) → (mI g_93 a) → (∀ j, j ∉ ([86] : List Nat) → g_93 j = g j) → va_P (dC, dI) vwCl (mG ad ca g_93 a) H → va_D A (mG ad ca g_93 a) → va_S A s.heap H locs → lv_has ls 6 [(5, .int (iI v5_11)), (4, .int (iI v4_93)), (0, .ref (ad 0)), (1, .int (iI p1)), (2, .int (iI p2)), (3, .int (iI p3))] → W p l e ({ frames := 0, cells := 0, slots := 0, locals := 0 }) s m ([.ref (ad 0), .int (iI p1), .int (iI p2), .int (iI p3)] : List Value).toArray below meth c H locs 0 0 Q (F0 m 93 ls []) := by
          intro v4_93 g_93 H locs ls h_11 hI hfA hP hD hS hl
          have b_12 : g_93 71 = g 71 := hfA 71 (by decide)
          refine lv_iinc (v := iI (v5_11 + 1)) (lv' := [(5, .int (iI (v5_11 + 1))), (4, .int (iI v4_93)), (0, .ref (ad 0)), (1, .int (iI p1)), (2, .int (iI p2)), (3, .int (iI p3))]) hx hb dX13_keeps_93 hl (k := 0) rfl (iI_add _ _) (by decide) rfl (fun ls hl => ?_)
          refine lv_goto (tgt := 11) hx hb dX13_keeps_96 (by decide) ?_
          exact ih11 (v5_11 + 1) v4_93 g_93 H locs ls (by omega) (by omega) hI hfA (by omega) hP hD hS hl
        refine xr_icmp_ne (tgt := 93) hx hb dX13_keeps_28 (by decide) (by omega) (by omega) (fun h_13 => ?_) (fun h_13 => ?_)
        · exact J93 v4_11 g_11 H locs ls (by omega) hI hfA hP hD hS hl
        · refine lv_aload_n hx hb dX13_keeps_31 rfl (lv_at hl 2 rfl) ?_
          refine gf_errorIn hx hb hj hown hK hP dX13_keeps_32 ?_
          refine lv_iload hx hb dX13_keeps_35 (lv_at hl 0 rfl) ?_
          refine ld_errorIn hx hb hK hP hI (by omega) (by omega) dX13_keeps_37 (fun h_14 => ?_)
          refine lv_iload_n hx hb dX13_keeps_38 rfl (lv_at hl 4 rfl) ?_
          refine xr_icmp_le (tgt := 45) hx hb dX13_keeps_39 (by decide) (by omega) (by omega) (fun h_15 => ?_) (fun h_15 => ?_)
          · refine lv_iload hx hb dX13_keeps_45 (lv_at hl 0 rfl) ?_
            refine lv_iload_n hx hb dX13_keeps_47 rfl (lv_at hl 5 rfl) ?_
            have J72 : ∀ (g_72 : Nat → Int) (H : Heap) (locs : List Loc) (ls : Array Slot), (mI g_72 a) → (∀ j, j ∉ ([86] : List Nat) → g_72 j = g j) → va_P (dC, dI) vwCl (mG ad ca g_72 a) H → va_D A (mG ad ca g_72 a) → va_S A s.heap H locs → lv_has ls 6 [(5, .int (iI v5_11)), (4, .int (iI v4_11)), (0, .ref (ad 0)), (1, .int (iI p1)), (2, .int (iI p2)), (3, .int (iI p3))] → W p l e ({ frames := 0, cells := 0, slots := 0, locals := 0 }) s m ([.ref (ad 0), .int (iI p1), .int (iI p2), .int (iI p3)] : List Value).toArray below meth c H locs 0 0 Q (F0 m 72 ls []) := by
              intro g_72 H locs ls hI hfA hP hD hS hl
              have b_16 : g_72 71 = g 71 := hfA 71 (by decide)
              refine lv_aload_n hx hb dX13_keeps_72 rfl (lv_at hl 2 rfl) ?_
              refine gf_errorIs hx hb hj hown hK hP dX13_keeps_73 ?_
              refine lv_iload hx hb dX13_keeps_76 (lv_at hl 0 rfl) ?_
              refine ld_errorIs hx hb hK hP hI (by omega) (by omega) dX13_keeps_78 (fun h_17 => ?_)
              refine lv_iload hx hb dX13_keeps_79 (lv_at hl 1 rfl) ?_
              refine xr_icmp_ne (tgt := 93) hx hb dX13_keeps_81 (by decide) (by omega) (by omega) (fun h_18 => ?_) (fun h_18 => ?_)
              · exact J93 v4_11 g_72 H locs ls (by omega) hI hfA hP hD hS hl
              · refine lv_aload_n hx hb dX13_keeps_84 rfl (lv_at hl 2 rfl) ?_
                refine gf_errorShould hx hb hj hown hK hP dX13_keeps_85 ?_
                refine lv_iload hx hb dX13_keeps_88 (lv_at hl 0 rfl) ?_
                refine ld_errorShould hx hb hK hP hI (by omega) (by omega) dX13_keeps_90 (fun h_19 => ?_)
                refine lv_istore (lv' := [(4, .int (iI (a 57 v5_11))), (5, .int (iI v5_11)), (0, .ref (ad 0)), (1, .int (iI p1)), (2, .int (iI p2)), (3, .int (iI p3))]) hx hb dX13_keeps_91 hl (by decide) rfl (fun ls hl => ?_)
                exact J93 (a 57 v5_11) g_72 H locs ls (by omega) hI hfA hP hD hS (lv_sub hl [1, 0, 2, 3, 4, 5] rfl)
            refine xr_icmp_ne (tgt := 72) hx hb dX13_keeps_48 (by decide) (by omega) (by omega) (fun h_20 => ?_) (fun h_20 => ?_)
            · exact J72 g_11 H locs ls hI hfA hP hD hS hl
            · refine lv_aload_n hx hb dX13_keeps_51 rfl (lv_at hl 2 rfl) ?_
              refine lv_aload_n hx hb dX13_keeps_52 rfl (lv_at hl 2 rfl) ?_
              refine gf_errorIs hx hb hj hown hK hP dX13_keeps_53 ?_
              refine lv_iload hx hb dX13_keeps_56 (lv_at hl 0 rfl) ?_
              refine ld_errorIs hx hb hK hP hI (by omega) (by omega) dX13_keeps_58 (fun h_21 => ?_)
              refine lv_iload hx hb dX13_keeps_59 (lv_at hl 1 rfl) ?_
              have J69 : ∀ (s0_69 : Int) (H : Heap) (locs : List Loc) (ls : Array Slot), (0 ≤ s0_69 ∧ s0_69 ≤ 1) → va_P (dC, dI) vwCl (mG ad ca g_11 a) H → va_D A (mG ad ca g_11 a) → va_S A s.heap H locs → lv_has ls 6 [(5, .int (iI v5_11)), (4, .int (iI v4_11)), (0, .ref (ad 0)), (1, .int (iI p1)), (2, .int (iI p2)), (3, .int (iI p3))] → W p l e ({ frames := 0, cells := 0, slots := 0, locals := 0 }) s m ([.ref (ad 0), .int (iI p1), .int (iI p2), .int (iI p3)] : List Value).toArray below meth c H locs 0 0 Q (F0 m 69 ls [.int (iI s0_69), .ref (ad 0)]) := by
                intro s0_69 H locs ls h_22 hP hD hS hl
                refine pa_missed hx hb hj hown hK hP hD hS hI dX13_keeps_69 (fun g_23 z_26 H locs h_27 h_28 e_24 e_25 hI hP hD hS => ?_)
                have hfA : ∀ j, j ∉ ([86] : List Nat) → g_23 j = g j := fun j h => (e_24 j (fun q => h (q ▸ (by decide : 86 ∈ ([86] : List Nat))))).trans (hfA j h)
                have b_29 : g_23 71 = g 71 := hfA 71 (by decide)
                exact J72 g_23 H locs ls hI hfA hP hD hS hl
              refine xr_icmp_ne (tgt := 68) hx hb dX13_keeps_61 (by decide) (by omega) (by omega) (fun h_30 => ?_) (fun h_30 => ?_)
              · refine lv_iconst (v := iI 1) hx hb dX13_keeps_68 rfl ?_
                exact J69 1 H locs ls (by omega) hP hD hS hl
              · refine lv_iconst (v := iI 0) hx hb dX13_keeps_64 rfl ?_
                refine lv_goto (tgt := 69) hx hb dX13_keeps_65 (by decide) ?_
                exact J69 0 H locs ls (by omega) hP hD hS hl
          · refine lv_goto (tgt := 93) hx hb dX13_keeps_42 (by decide) ?_
            exact J93 v4_11 g_11 H locs ls (by omega) hI hfA hP hD hS hl
  exact L11 ((((g 71) - 0 : Int)).toNat + 1) 0 (a 46 p1) g H locs ls (by omega) (by omega) hI hfA (by omega) hP hD hS hl
