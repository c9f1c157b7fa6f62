set_option maxHeartbeats 2000000 in
set_option maxRecDepth 100000 in
theorem sX13_better (l : Launch) (dC : Nat → ClassId) (dI : Nat → Nat → Nat) (sz : Nat) (ad : Nat → Nat) (ca : Nat → ClassId) (g : Nat → Int) (a : Nat → Int → Int) (p1 : Int) (p2 : Int) (hI : mI g a) (q1 : rg p1) (q2 : rg p2) (k1 : 0 ≤ p1 ∧ p1 < 9331) (k2 : 0 ≤ p2 ∧ p2 < 9331) : Met l yX13_better (jk yX13_better cX13_better 3 none) ({ frames := 0, cells := 0, slots := 0, locals := 0 }) (va_Pc [.ref (ad 0), .int (iI p1), .int (iI p2)] (jw_P (dC, dI) (mG ad ca g a) (mT ca) sz)) (va_Qv (fun (u : (Nat → Int) × (Nat → Int → Int)) => (u.1 = g) ∧ (mI u.1 u.2) ∧ (∀ j, j ∉ ([77, 78] : List Nat) → u.2 j = a j)) (fun u t => va_P (dC, dI) vwCl (mG ad ca u.1 u.2) t.heap ∧ va_K (dC, dI) vwCl (mT ca) t ∧ va_D (va_A (mG ad ca g a) sz) (mG ad ca u.1 u.2)) (va_A (mG ad ca g a) sz)) 0 0 (va_A (mG ad ca g a) sz) := by
  refine Met.ofW (cc := cX13_better) (maxL := 3) (ret := none) (by decide) rfl ?_
  intro p e s m args below meth c s₁ B hml hv
  obtain ⟨rfl, hsz, hP, hK, hD0⟩ := hv
  have hx := B.exec
  have hb := B.bytes
  have hr := B.returns
  have hts := atoms_spec (ws := (jk yX13_better cX13_better 3 none)) B.pre
  have hj : ∀ w ∈ jw, w.before ([.ref (ad 0), .int (iI p1), .int (iI p2)] : List Value).toArray s = true := fun w h => hts w (jm h)
  have hown : s.vm.findClass RX13 = some m.cls := findClass_of_methodNamed B.named
  subst hsz
  have hD := hD0.self (sz := s.heap.size)
  generalize hAe : (va_A (mG ad ca g a) s.heap.size) = A at hD ⊢
  have hA : ∀ q : Nat, s.heap.size ≤ q → A q := fun q h => by rw [← hAe]; exact Or.inr h
  have hS : va_S A s.heap s.heap [] := va_S.rf
  have hP : va_P (dC, dI) vwCl (mG ad ca g a) s.heap := hP
  have haA : ∀ j, j ∉ ([77, 78] : List Nat) → a j = a j := fun _ _ => rfl
  have hl := lv_entry ([.ref (ad 0), .int (iI p1), .int (iI p2)]) (n := 3) (Nat.le_of_ble_eq_true rfl)
  rw [lg_entry_eq]
  generalize (lg_sl ([.ref (ad 0), .int (iI p1), .int (iI p2)]) ++ List.replicate (3 - (lg_sl ([.ref (ad 0), .int (iI p1), .int (iI p2)])).length) Slot.unset).toArray = ls at hl ⊢
  have hl : lv_has ls 3 [(0, .ref (ad 0)), (1, .int (iI p1)), (2, .int (iI p2))] := hl
  generalize hQ : MQ below (va_Qv (fun (u : (Nat → Int) × (Nat → Int → Int)) => (u.1 = g) ∧ (mI u.1 u.2) ∧ (∀ j, j ∉ ([77, 78] : List Nat) → u.2 j = a j)) (fun u t => va_P (dC, dI) vwCl (mG ad ca u.1 u.2) t.heap ∧ va_K (dC, dI) vwCl (mT ca) t ∧ va_D A (mG ad ca u.1 u.2)) A) ([.ref (ad 0), .int (iI p1), .int (iI p2)] : List Value).toArray s 0 0 A = Q
  suffices ST : ∀ (H : Heap) (locs : List Loc), va_P (dC, dI) vwCl (mG ad ca g a) H → va_S A s.heap H locs → W p l e ({ frames := 0, cells := 0, slots := 0, locals := 0 }) s m ([.ref (ad 0), .int (iI p1), .int (iI p2)] : List Value).toArray below meth c H locs 0 0 Q (F0 m 0 ls []) from ST _ _ hP hS
  clear hP hS
  intro H locs hP hS
  refine lv_aload_n hx hb dX13_better_0 rfl (lv_at hl 0 rfl) ?_
  refine gf_changes hx hb hj hown hK hP dX13_better_1 ?_
  refine lv_iload_n hx hb dX13_better_4 rfl (lv_at hl 2 rfl) ?_
  refine ld_changes hx hb hK hP hI (by omega) (by omega) dX13_better_5 (fun h_1 => ?_)
  refine lv_iconst (v := iI 1) hx hb dX13_better_6 rfl ?_
  refine xr_add hx hb dX13_better_7 ?_
  refine xr_kept (fun z_2 h_3 h_4 => ?_)
  refine lv_aload_n hx hb dX13_better_8 rfl (lv_at hl 0 rfl) ?_
  refine gf_changes hx hb hj hown hK hP dX13_better_9 ?_
  refine lv_iload_n hx hb dX13_better_12 rfl (lv_at hl 1 rfl) ?_
  refine ld_changes hx hb hK hP hI (by omega) (by omega) dX13_better_13 (fun h_5 => ?_)
  refine xr_icmp_gt (tgt := 49) hx hb dX13_better_14 (by decide) (by omega) (by omega) (fun h_6 => ?_) (fun h_6 => ?_)
  · rw [← hQ]
    exact W.vret hx hb hr (fun t ht hW => ⟨⟨(g, a), rfl, ⟨rfl, hI, haA⟩, by rw [ht]; exact hP, va_K.moved hW.alike hK, hD⟩, hS.F ht⟩) hS.2.2 dX13_better_49
  · refine lv_aload_n hx hb dX13_better_17 rfl (lv_at hl 0 rfl) ?_
    refine gf_changes hx hb hj hown hK hP dX13_better_18 ?_
    refine lv_iload_n hx hb dX13_better_21 rfl (lv_at hl 2 rfl) ?_
    refine ld_changes hx hb hK hP hI (by omega) (by omega) dX13_better_22 (fun h_7 => ?_)
    refine lv_iconst (v := iI 1) hx hb dX13_better_23 rfl ?_
    refine xr_add hx hb dX13_better_24 ?_
    refine xr_kept (fun z_8 h_9 h_10 => ?_)
    refine lv_aload_n hx hb dX13_better_25 rfl (lv_at hl 0 rfl) ?_
    refine gf_changes hx hb hj hown hK hP dX13_better_26 ?_
    refine lv_iload_n hx hb dX13_better_29 rfl (lv_at hl 1 rfl) ?_
    refine ld_changes hx hb hK hP hI (by omega) (by omega) dX13_better_30 (fun h_11 => ?_)
    have J50 : ∀ (H : Heap) (locs : List Loc) (ls : Array Slot), va_P (dC, dI) vwCl (mG ad ca g a) H → va_D A (mG ad ca g a) → va_S A s.heap H locs → lv_has ls 3 [(0, .ref (ad 0)), (1, .int (iI p1)), (2, .int (iI p2))] → W p l e ({ frames := 0, cells := 0, slots := 0, locals := 0 }) s m ([.ref (ad 0), .int (iI p1), .int (iI p2)] : List Value).toArray below meth c H locs 0 0 Q (F0 m 50 ls []) := by
      intro H locs ls hP hD hS hl
      refine lv_aload_n hx hb dX13_better_50 rfl (lv_at hl 0 rfl) ?_
      refine gf_changes hx hb hj hown hK hP dX13_better_51 ?_
      refine lv_iload_n hx hb dX13_better_54 rfl (lv_at hl 1 rfl) ?_
      refine lv_aload_n hx hb dX13_better_55 rfl (lv_at hl 0 rfl) ?_
      refine gf_changes hx hb hj hown hK hP dX13_better_56 ?_
      refine lv_iload_n hx hb dX13_better_59 rfl (lv_at hl 2 rfl) ?_
      refine ld_changes hx hb hK hP hI (by omega) (by omega) dX13_better_60 (fun h_12 => ?_)
      refine lv_iconst (v := iI 1) hx hb dX13_better_61 rfl ?_
      refine xr_add hx hb dX13_better_62 ?_
      refine xr_kept (fun z_13 h_14 h_15 => ?_)
      refine sa_changes hx hb hK hP hD hS hI (by omega) (by omega) dX13_better_63 (fun a_16 z_19 H locs h_20 h_21 e_17 e_18 hI hP hD hS => ?_)
      have haA : ∀ j, j ∉ ([77, 78] : List Nat) → a_16 j = a j := fun j h => (e_17 j (fun q => h (q ▸ (by decide : 77 ∈ ([77, 78] : List Nat))))).trans (haA j h)
      refine lv_aload_n hx hb dX13_better_64 rfl (lv_at hl 0 rfl) ?_
      refine gf_shared hx hb hj hown hK hP dX13_better_65 ?_
      refine lv_iload_n hx hb dX13_better_68 rfl (lv_at hl 1 rfl) ?_
      refine lv_aload_n hx hb dX13_better_69 rfl (lv_at hl 0 rfl) ?_
      refine gf_shared hx hb hj hown hK hP dX13_better_70 ?_
      refine lv_iload_n hx hb dX13_better_73 rfl (lv_at hl 2 rfl) ?_
      refine ld_shared hx hb hK hP hI (by omega) (by omega) dX13_better_74 (fun h_22 => ?_)
      refine sa_shared hx hb hK hP hD hS hI (by omega) (by omega) dX13_better_75 (fun a_23 z_26 H locs h_27 h_28 e_24 e_25 hI hP hD hS => ?_)
      have haA : ∀ j, j ∉ ([77, 78] : List Nat) → a_23 j = a j := fun j h => (e_24 j (fun q => h (q ▸ (by decide : 78 ∈ ([77, 78] : List Nat))))).trans (haA j h)
      rw [← hQ]
      exact W.vret hx hb hr (fun t ht hW => ⟨⟨(g, a_23), rfl, ⟨rfl, hI, haA⟩, by rw [ht]; exact hP, va_K.moved hW.alike hK, hD⟩, hS.F ht⟩) hS.2.2 dX13_better_76
    refine xr_icmp_ne (tgt := 50) hx hb dX13_better_31 (by decide) (by omega) (by omega) (fun h_29 => ?_) (fun h_29 => ?_)
    · exact J50 H locs ls hP hD hS hl
    · refine lv_aload_n hx hb dX13_better_34 rfl (lv_at hl 0 rfl) ?_
      refine gf_shared hx hb hj hown hK hP dX13_better_35 ?_
      refine lv_iload_n hx hb dX13_better_38 rfl (lv_at hl 2 rfl) ?_
      refine ld_shared hx hb hK hP hI (by omega) (by omega) dX13_better_39 (fun h_30 => ?_)
      refine lv_aload_n hx hb dX13_better_40 rfl (lv_at hl 0 rfl) ?_
      refine gf_shared hx hb hj hown hK hP dX13_better_41 ?_
      refine lv_iload_n hx hb dX13_better_44 rfl (lv_at hl 1 rfl) ?_
      refine ld_shared hx hb hK hP hI (by omega) (by omega) dX13_better_45 (fun h_31 => ?_)
      refine xr_icmp_gt (tgt := 50) hx hb dX13_better_46 (by decide) (by omega) (by omega) (fun h_32 => ?_) (fun h_32 => ?_)
      · exact J50 H locs ls hP hD hS hl
      · rw [← hQ]
        exact W.vret hx hb hr (fun t ht hW => ⟨⟨(g, a), rfl, ⟨rfl, hI, haA⟩, by rw [ht]; exact hP, va_K.moved hW.alike hK, hD⟩, hS.F ht⟩) hS.2.2 dX13_better_49
set_option maxHeartbeats 2000000 in
set_option maxRecDepth 100000 in
theorem sX13_bringsTo (l : Launch) (dC : Nat → ClassId) (dI : Nat → Nat → Nat) (sz : Nat) (ad : Nat → Nat) (ca : Nat → ClassId) (g : Nat → Int) (a : Nat → Int → Int) (p1 : Int) (p2 : Int) (hI : mI g a) (q1 : rg p1) (q2 : rg p2) (hrSh : rSh g a) : Met l yX13_bringsTo (jk yX13_bringsTo cX13_bringsTo 13 (some .int)) ({ frames := 8, cells := 0, slots := 0, locals := 200 }) (va_Pc [.ref (ad 0), .int (iI p1), .int (iI p2)] (jw_P (dC, dI) (mG ad ca g a) (mT ca) sz)) (va_Qi (fun (r : Int32) (u : (Nat → Int) × (Nat → Int → Int)) => ∃ z : Int, r = iI z ∧ (mI u.1 u.2) ∧ (∀ j, j ∉ ([90] : List Nat) → u.1 j = g j) ∧ (∀ j, j ∉ ([62, 63, 64, 65, 67, 68, 69, 70] : List Nat) → u.2 j = a j) ∧ ((-1) ≤ z ∧ z ≤ 60)) (fun u t => va_P (dC, dI) vwCl (mG ad ca u.1 u.2) t.heap ∧ va_K (dC, dI) vwCl (mT ca) t ∧ va_D (va_A (mG ad ca g a) sz) (mG ad ca u.1 u.2)) (va_A (mG ad ca g a) sz)) 0 0 (va_A (mG ad ca g a) sz) := by
  refine Met.ofW (cc := cX13_bringsTo) (maxL := 13) (ret := (some .int)) (by decide) rfl ?_
  intro p e s m args below meth c s₁ B hml hv
  obtain ⟨rfl, hsz, hP, hK, hD0⟩ := hv
  have hx := B.exec
  have hb := B.bytes
  have hr := B.returns
  have hts := atoms_spec (ws := (jk yX13_bringsTo cX13_bringsTo 13 (some .int))) B.pre
  have hj : ∀ w ∈ jw, w.before ([.ref (ad 0), .int (iI p1), .int (iI p2)] : List Value).toArray s = true := fun w h => hts w (jm h)
  have hown : s.vm.findClass RX13 = some m.cls := findClass_of_methodNamed B.named
  subst hsz
  have hD := hD0.self (sz := s.heap.size)
  generalize hAe : (va_A (mG ad ca g a) s.heap.size) = A at hD ⊢
  have hA : ∀ q : Nat, s.heap.size ≤ q → A q := fun q h => by rw [← hAe]; exact Or.inr h
  have hS : va_S A s.heap s.heap [] := va_S.rf
  have hP : va_P (dC, dI) vwCl (mG ad ca g a) s.heap := hP
  have hfA : ∀ j, j ∉ ([90] : List Nat) → g j = g j := fun _ _ => rfl
  have haA : ∀ j, j ∉ ([62, 63, 64, 65, 67, 68, 69, 70] : List Nat) → a j = a j := fun _ _ => rfl
  have hl := lv_entry ([.ref (ad 0), .int (iI p1), .int (iI p2)]) (n := 13) (Nat.le_of_ble_eq_true rfl)
  rw [lg_entry_eq]
  generalize (lg_sl ([.ref (ad 0), .int (iI p1), .int (iI p2)]) ++ List.replicate (13 - (lg_sl ([.ref (ad 0), .int (iI p1), .int (iI p2)])).length) Slot.unset).toArray = ls at hl ⊢
  have hl : lv_has ls 13 [(0, .ref (ad 0)), (1, .int (iI p1)), (2, .int (iI p2))] := hl
  generalize hQ : MQ below (va_Qi (fun (r : Int32) (u : (Nat → Int) × (Nat → Int → Int)) => ∃ z : Int, r = iI z ∧ (mI u.1 u.2) ∧ (∀ j, j ∉ ([90] : List Nat) → u.1 j = g j) ∧ (∀ j, j ∉ ([62, 63, 64, 65, 67, 68, 69, 70] : List Nat) → u.2 j = a j) ∧ ((-1) ≤ z ∧ z ≤ 60)) (fun u t => va_P (dC, dI) vwCl (mG ad ca u.1 u.2) t.heap ∧ va_K (dC, dI) vwCl (mT ca) t ∧ va_D A (mG ad ca u.1 u.2)) A) ([.ref (ad 0), .int (iI p1), .int (iI p2)] : List Value).toArray s 0 0 A = Q
  suffices ST : ∀ (H : Heap) (locs : List Loc), va_P (dC, dI) vwCl (mG ad ca g a) H → va_S A s.heap H locs → W p l e ({ frames := 8, cells := 0, slots := 0, locals := 200 }) s m ([.ref (ad 0), .int (iI p1), .int (iI p2)] : List Value).toArray below meth c H locs 0 0 Q (F0 m 0 ls []) from ST _ _ hP hS
  clear hP hS
  intro H locs hP hS
  refine lv_iload_n hx hb dX13_bringsTo_0 rfl (lv_at hl 1 rfl) ?_
  refine jc_i (va_runS (As := [.int (iI p1)]) (rest := []) ⟨hx, hb, hml, hown, hts⟩ (sX13_isVolume l dC dI _ p1 (by omega)) (va_cwS 1 hts (jgoodS m_243 m_395 m_503 m_164) rfl rfl rfl (by decide +kernel) ⟨(Nat.le_of_ble_eq_true rfl), (Nat.le_of_ble_eq_true rfl)⟩) ⟨jw_blind0, fun U hU hW => ⟨rfl, congrArg Array.size hU⟩⟩ rfl rfl hl.1 rfl (lv_room (Nat.le_of_ble_eq_true rfl)) dX13_bringsTo_1 ⟨(Nat.le_of_ble_eq_true rfl), (Nat.le_of_ble_eq_true rfl)⟩) hP hS hA (fun r_1 H locs w_2 hP hS => ?_)
  obtain ⟨z_3, rfl, h_4, h_5⟩ := w_2
  refine xr_if_eq (tgt := 27) hx hb dX13_bringsTo_4 (by decide) (by omega) (fun h_6 => ?_) (fun h_6 => ?_)
  · refine lv_iconst (v := iI (-1)) hx hb dX13_bringsTo_27 rfl ?_
    rw [← hQ]
    exact W.iret (v := iI (-1)) hx hb hr (fun t ht hW => ⟨⟨iI (-1), (g, a), rfl, ⟨(-1), rfl, hI, hfA, haA, by omega⟩, by rw [ht]; exact hP, va_K.moved hW.alike hK, hD⟩, hS.F ht⟩) hS.2.2 dX13_bringsTo_28
  · refine lv_aload_n hx hb dX13_bringsTo_7 rfl (lv_at hl 0 rfl) ?_
    refine gf_isSet hx hb hj hown hK hP dX13_bringsTo_8 ?_
    refine lv_iload_n hx hb dX13_bringsTo_11 rfl (lv_at hl 1 rfl) ?_
    refine ld_isSet hx hb hK hP hI (by omega) (by omega) dX13_bringsTo_12 (fun h_7 => ?_)
    refine xr_if_ne (tgt := 27) hx hb dX13_bringsTo_13 (by decide) (by omega) (fun h_8 => ?_) (fun h_8 => ?_)
    · refine lv_iconst (v := iI (-1)) hx hb dX13_bringsTo_27 rfl ?_
      rw [← hQ]
      exact W.iret (v := iI (-1)) hx hb hr (fun t ht hW => ⟨⟨iI (-1), (g, a), rfl, ⟨(-1), rfl, hI, hfA, haA, by omega⟩, by rw [ht]; exact hP, va_K.moved hW.alike hK, hD⟩, hS.F ht⟩) hS.2.2 dX13_bringsTo_28
    · refine lv_iload_n hx hb dX13_bringsTo_16 rfl (lv_at hl 2 rfl) ?_
      refine lv_iconst (v := iI 1) hx hb dX13_bringsTo_17 rfl ?_
      refine lv_sipush (v := iI 400) hx hb dX13_bringsTo_18 rfl ?_
      refine jc_i (va_runS (As := [.int (iI p2), .int (iI 1), .int (iI 400)]) (rest := []) ⟨hx, hb, hml, hown, hts⟩ (sX13_in l dC dI _ p2 1 400 (by omega) (by omega) (by omega)) (va_cwS 3 hts (jgoodS m_220 m_364 m_503 m_147) rfl rfl rfl (by decide +kernel) ⟨(Nat.le_of_ble_eq_true rfl), (Nat.le_of_ble_eq_true rfl)⟩) ⟨jw_blind0, fun U hU hW => ⟨rfl, congrArg Array.size hU⟩⟩ rfl rfl hl.1 rfl (lv_room (Nat.le_of_ble_eq_true rfl)) dX13_bringsTo_21 ⟨(Nat.le_of_ble_eq_true rfl), (Nat.le_of_ble_eq_true rfl)⟩) hP hS hA (fun r_9 H locs w_10 hP hS => ?_)
      obtain ⟨z_11, rfl, h_12, h_13⟩ := w_10
      refine xr_if_ne (tgt := 29) hx hb dX13_bringsTo_24 (by decide) (by omega) (fun h_14 => ?_) (fun h_14 => ?_)
      · refine lv_aload_n hx hb dX13_bringsTo_29 rfl (lv_at hl 0 rfl) ?_
        refine lv_iload_n hx hb dX13_bringsTo_30 rfl (lv_at hl 1 rfl) ?_
        refine jcg_i (va_runV (As := [.int (iI p1)]) (rest := []) ⟨hx, hb, hml, hown, hts⟩ (sX13_orders l dC dI _ ad ca g a p1 hI (by omega) (by omega) hrSh) (cwV 1 hts (jgoodV m_260 m_436 m_437 m_503 m_186) rfl rfl rfl (by decide +kernel) ⟨(Nat.le_of_ble_eq_true rfl), (Nat.le_of_ble_eq_true rfl)⟩) ⟨jw_blind, va_recv hK hP (ci := 13) (q0 := 0) rfl rfl, fun U hU hW => ⟨rfl, jw_of hU hW hP hK hD⟩⟩ rfl rfl hl.1 rfl (lv_room (Nat.le_of_ble_eq_true rfl)) dX13_bringsTo_31 ⟨(Nat.le_of_ble_eq_true rfl), (Nat.le_of_ble_eq_true rfl)⟩) hD hS hA (fun r_15 u_21 H locs w_16 hP hK hD hS => ?_)
        obtain ⟨g_19, a_20⟩ := u_21
        obtain ⟨z_17, rfl, e_23, hI, hfr_22, h_18⟩ := w_16
        have hP : va_P (dC, dI) vwCl (mG ad ca g_19 a_20) H := hP
        have hD : va_D A (mG ad ca g_19 a_20) := hD
        have e_23 : g = g_19 := e_23.symm
        subst e_23
        have haA : ∀ j, j ∉ ([62, 63, 64, 65, 67, 68, 69, 70] : List Nat) → a_20 j = a j := fun j h => (hfr_22 j (fun q => h (by first | exact q | (simp only [List.mem_cons, List.not_mem_nil, or_false] at q ⊢ <;> omega)))).trans (haA j h)
        refine lv_istore_n (lv' := [(3, .int (iI z_17)), (0, .ref (ad 0)), (1, .int (iI p1)), (2, .int (iI p2))]) hx hb dX13_bringsTo_34 rfl hl (by decide) rfl (fun ls hl => ?_)
        refine lv_iconst (v := iI 0) hx hb dX13_bringsTo_35 rfl ?_
        refine lv_istore (lv' := [(4, .int (iI 0)), (3, .int (iI z_17)), (0, .ref (ad 0)), (1, .int (iI p1)), (2, .int (iI p2))]) hx hb dX13_bringsTo_36 hl (by decide) rfl (fun ls hl => ?_)
        refine lv_iconst (v := iI 0) hx hb dX13_bringsTo_38 rfl ?_
        refine lv_istore (lv' := [(5, .int (iI 0)), (4, .int (iI 0)), (3, .int (iI z_17)), (0, .ref (ad 0)), (1, .int (iI p1)), (2, .int (iI p2))]) hx hb dX13_bringsTo_39 hl (by decide) rfl (fun ls hl => ?_)
        refine lv_iconst (v := iI 0) hx hb dX13_bringsTo_41 rfl ?_
        refine lv_istore (lv' := [(6, .int (iI 0)), (5, .int (iI 0)), (4, .int (iI 0)), (3, .int (iI z_17)), (0, .ref (ad 0)), (1, .int (iI p1)), (2, .int (iI p2))]) hx hb dX13_bringsTo_42 hl (by decide) rfl (fun ls hl => ?_)
        refine lv_aload_n hx hb dX13_bringsTo_44 rfl (lv_at hl 4 rfl) ?_
        refine lv_iconst (v := iI 0) hx hb dX13_bringsTo_45 rfl ?_
        refine pa_differs hx hb hj hown hK hP hD hS hI dX13_bringsTo_46 (fun g_24 z_27 H locs h_28 h_29 e_25 e_26 hI hP hD hS => ?_)
        have hfA : ∀ j, j ∉ ([90] : List Nat) → g_24 j = g j := fun j h => (e_25 j (fun q => h (q ▸ (by decide : 90 ∈ ([90] : List Nat))))).trans (hfA j h)
        have b_30 : g_24 30 = g 30 := hfA 30 (by decide)
        refine lv_iconst (v := iI 0) hx hb dX13_bringsTo_49 rfl ?_
        refine lv_istore (lv' := [(7, .int (iI 0)), (6, .int (iI 0)), (5, .int (iI 0)), (4, .int (iI 0)), (3, .int (iI z_17)), (0, .ref (ad 0)), (1, .int (iI p1)), (2, .int (iI p2))]) hx hb dX13_bringsTo_50 hl (by decide) rfl (fun ls hl => ?_)
        have L52 : ∀ (n52 : Nat) (v7_52 v6_52 v5_52 v4_52 : Int) (a_52 : Nat → Int → Int) (H : Heap) (locs : List Loc) (ls : Array Slot), (0 ≤ v7_52 ∧ v7_52 ≤ 2147483647) → ((-2147483648) ≤ v6_52 ∧ v6_52 ≤ 2147483647) → ((-2147483648) ≤ v5_52 ∧ v5_52 ≤ 2147483647) → ((-2147483648) ≤ v4_52 ∧ v4_52 ≤ 2147483647) → (0 ≤ v6_52 ∧ v6_52 ≤ 400 * v7_52) → (v7_52 ≤ z_17) → (mI g_24 a_52) → (∀ j, j ∉ ([62, 63, 64, 65, 67, 68, 69, 70] : List Nat) → a_52 j = a j) → (0 < (n52 : Int) ∧ z_17 - v7_52 < (n52 : Int)) → va_P (dC, dI) vwCl (mG ad ca g_24 a_52) H → va_D A (mG ad ca g_24 a_52) → va_S A s.heap H locs → lv_has ls 13 [(7, .int (iI v7_52)), (6, .int (iI v6_52)), (5, .int (iI v5_52)), (4, .int (iI v4_52)), (3, .int (iI z_17)), (0, .ref (ad 0)), (1, .int (iI p1)), (2, .int (iI p2))] → W p l e ({ frames := 8, cells := 0, slots := 0, locals := 200 }) s m ([.ref (ad 0), .int (iI p1), .int (iI p2)] : List Value).toArray below meth c H locs 0 0 Q (F0 m 52 ls []) := by
          intro n52
          induction n52 with
          | zero =>
            intro v7_52 v6_52 v5_52 v4_52 a_52 H locs ls h_31 h_32 h_33 h_34 h_35 h_36 hI haA hm52 hP hD hS hl
            exfalso; omega
          | succ n52 ih52 =>
            intro v7_52 v6_52 v5_52 v4_52 a_52 H locs ls h_37 h_38 h_39 h_40 h_41 h_42 hI haA hm52 hP hD hS hl
            refine lv_iload hx hb dX13_bringsTo_52 (lv_at hl 0 rfl) ?_
            refine lv_iload_n hx hb dX13_bringsTo_54 rfl (lv_at hl 4 rfl) ?_
            refine xr_icmp_ge (tgt := 344) hx hb dX13_bringsTo_55 (by decide) (by omega) (by omega) (fun h_43 => ?_) (fun h_43 => ?_)
            · refine lv_iconst (v := iI (-1)) hx hb dX13_bringsTo_344 rfl ?_
              refine lv_istore (lv' := [(7, .int (iI (-1))), (6, .int (iI v6_52)), (5, .int (iI v5_52)), (4, .int (iI v4_52)), (3, .int (iI z_17)), (0, .ref (ad 0)), (1, .int (iI p1)), (2, .int (iI p2))]) hx hb dX13_bringsTo_345 hl (by decide) rfl (fun ls hl => ?_)
              refine lv_iconst (v := iI 0) hx hb dX13_bringsTo_347 rfl ?_
              refine lv_istore (lv' := [(8, .int (iI 0)), (7, .int (iI (-1))), (6, .int (iI v6_52)), (5, .int (iI v5_52)), (4, .int (iI v4_52)), (3, .int (iI z_17)), (0, .ref (ad 0)), (1, .int (iI p1)), (2, .int (iI p2))]) hx hb dX13_bringsTo_348 hl (by decide) rfl (fun ls hl => ?_)
              have L350 : ∀ (n350 : Nat) (v8_350 v7_350 : Int) (H : Heap) (locs : List Loc) (ls : Array Slot), ((-2147483648) ≤ v8_350 ∧ v8_350 ≤ 2147483647) → ((-2147483648) ≤ v7_350 ∧ v7_350 ≤ 2147483647) → (0 ≤ v8_350 ∧ v8_350 ≤ 24400) → (0 < (n350 : Int) ∧ v6_52 - v8_350 + 1 < (n350 : Int)) → va_P (dC, dI) vwCl (mG ad ca g_24 a_52) H → va_D A (mG ad ca g_24 a_52) → va_S A s.heap H locs → lv_has ls 13 [(8, .int (iI v8_350)), (7, .int (iI v7_350)), (6, .int (iI v6_52)), (5, .int (iI v5_52)), (4, .int (iI v4_52)), (3, .int (iI z_17)), (0, .ref (ad 0)), (1, .int (iI p1)), (2, .int (iI p2))] → W p l e ({ frames := 8, cells := 0, slots := 0, locals := 200 }) s m ([.ref (ad 0), .int (iI p1), .int (iI p2)] : List Value).toArray below meth c H locs 0 0 Q (F0 m 350 ls []) := by
                intro n350
                induction n350 with
                | zero =>
                  intro v8_350 v7_350 H locs ls h_44 h_45 h_46 hm350 hP hD hS hl
                  exfalso; omega
                | succ n350 ih350 =>
                  intro v8_350 v7_350 H locs ls h_47 h_48 h_49 hm350 hP hD hS hl
                  refine lv_iload hx hb dX13_bringsTo_350 (lv_at hl 0 rfl) ?_
                  refine lv_iload hx hb dX13_bringsTo_352 (lv_at hl 2 rfl) ?_
                  refine xr_icmp_gt (tgt := 436) hx hb dX13_bringsTo_354 (by decide) (by omega) (by omega) (fun h_50 => ?_) (fun h_50 => ?_)
                  · refine lv_iload hx hb dX13_bringsTo_436 (lv_at hl 1 rfl) ?_
                    refine lv_iconst (v := iI (-1)) hx hb dX13_bringsTo_438 rfl ?_
                    refine xr_icmp_ne (tgt := 444) hx hb dX13_bringsTo_439 (by decide) (by omega) (by omega) (fun h_51 => ?_) (fun h_51 => ?_)
                    · refine lv_iload hx hb dX13_bringsTo_444 (lv_at hl 1 rfl) ?_
                      refine lv_iload hx hb dX13_bringsTo_446 (lv_at hl 4 rfl) ?_
                      refine xr_sub hx hb dX13_bringsTo_448 ?_
                      refine xr_kept (fun z_52 h_53 h_54 => ?_)
                      refine lv_istore (lv' := [(8, .int (iI z_52)), (7, .int (iI v7_350)), (6, .int (iI v6_52)), (5, .int (iI v5_52)), (4, .int (iI v4_52)), (3, .int (iI z_17)), (0, .ref (ad 0)), (1, .int (iI p1)), (2, .int (iI p2))]) hx hb dX13_bringsTo_449 hl (by decide) rfl (fun ls hl => ?_)
                      refine lv_iconst (v := iI 0) hx hb dX13_bringsTo_451 rfl ?_
                      refine lv_istore (lv' := [(9, .int (iI 0)), (8, .int (iI z_52)), (7, .int (iI v7_350)), (6, .int (iI v6_52)), (5, .int (iI v5_52)), (4, .int (iI v4_52)), (3, .int (iI z_17)), (0, .ref (ad 0)), (1, .int (iI p1)), (2, .int (iI p2))]) hx hb dX13_bringsTo_452 hl (by decide) rfl (fun ls hl => ?_)
                      have L454 : ∀ (n454 : Nat) (v9_454 v8_454 : Int) (g_454 : Nat → Int) (a_454 : Nat → Int → Int) (H : Heap) (locs : List Loc) (ls : Array Slot), (0 ≤ v9_454 ∧ v9_454 ≤ 2147483647) → ((-2147483648) ≤ v8_454 ∧ v8_454 ≤ 2147483647) → (mI g_454 a_454) → (∀ j, j ∉ ([90] : List Nat) → g_454 j = g j) → (∀ j, j ∉ ([62, 63, 64, 65, 67, 68, 69, 70] : List Nat) → a_454 j = a j) → (0 < (n454 : Int) ∧ z_17 - v9_454 < (n454 : Int)) → va_P (dC, dI) vwCl (mG ad ca g_454 a_454) H → va_D A (mG ad ca g_454 a_454) → va_S A s.heap H locs → lv_has ls 13 [(9, .int (iI v9_454)), (8, .int (iI v8_454)), (7, .int (iI v7_350)), (6, .int (iI v6_52)), (5, .int (iI v5_52)), (4, .int (iI v4_52)), (3, .int (iI z_17)), (0, .ref (ad 0)), (1, .int (iI p1)), (2, .int (iI p2))] → W p l e ({ frames := 8, cells := 0, slots := 0, locals := 200 }) s m ([.ref (ad 0), .int (iI p1), .int (iI p2)] : List Value).toArray below meth c H locs 0 0 Q (F0 m 454 ls []) := by
                        intro n454
                        induction n454 with
                        | zero =>
                          intro v9_454 v8_454 g_454 a_454 H locs ls h_55 h_56 hI hfA haA hm454 hP hD hS hl
                          have b_57 : g_454 30 = g 30 := hfA 30 (by decide)
                          exfalso; omega
                        | succ n454 ih454 =>
                          intro v9_454 v8_454 g_454 a_454 H locs ls h_58 h_59 hI hfA haA hm454 hP hD hS hl
                          have b_60 : g_454 30 = g 30 := hfA 30 (by decide)
                          refine lv_iload hx hb dX13_bringsTo_454 (lv_at hl 0 rfl) ?_
                          refine lv_iload_n hx hb dX13_bringsTo_456 rfl (lv_at hl 6 rfl) ?_
                          refine xr_icmp_ge (tgt := 654) hx hb dX13_bringsTo_457 (by decide) (by omega) (by omega) (fun h_61 => ?_) (fun h_61 => ?_)
                          · refine lv_iload_n hx hb dX13_bringsTo_654 rfl (lv_at hl 6 rfl) ?_
                            rw [← hQ]
                            exact W.iret (v := iI z_17) hx hb hr (fun t ht hW => ⟨⟨iI z_17, (g_454, a_454), rfl, ⟨z_17, rfl, hI, hfA, haA, by omega⟩, by rw [ht]; exact hP, va_K.moved hW.alike hK, hD⟩, hS.F ht⟩) hS.2.2 dX13_bringsTo_655
                          · refine lv_aload_n hx hb dX13_bringsTo_460 rfl (lv_at hl 7 rfl) ?_
                            refine gf_order hx hb hj hown hK hP dX13_bringsTo_461 ?_
                            refine lv_iload hx hb dX13_bringsTo_464 (lv_at hl 0 rfl) ?_
                            refine ld_order hx hb hK hP hI (by omega) (by omega) dX13_bringsTo_466 (fun h_62 => ?_)
                            refine lv_istore (lv' := [(10, .int (iI (a_454 67 v9_454))), (9, .int (iI v9_454)), (8, .int (iI v8_454)), (7, .int (iI v7_350)), (6, .int (iI v6_52)), (5, .int (iI v5_52)), (4, .int (iI v4_52)), (3, .int (iI z_17)), (0, .ref (ad 0)), (1, .int (iI p1)), (2, .int (iI p2))]) hx hb dX13_bringsTo_467 hl (by decide) rfl (fun ls hl => ?_)
                            refine lv_aload_n hx hb dX13_bringsTo_469 rfl (lv_at hl 8 rfl) ?_
                            refine gf_isStruck hx hb hj hown hK hP dX13_bringsTo_470 ?_
                            refine lv_iload hx hb dX13_bringsTo_473 (lv_at hl 0 rfl) ?_
                            refine ld_isStruck hx hb hK hP hI (by omega) (by omega) dX13_bringsTo_475 (fun h_63 => ?_)
                            have J648 : ∀ (v8_648 : Int) (g_648 : Nat → Int) (a_648 : Nat → Int → Int) (H : Heap) (locs : List Loc) (ls : Array Slot), ((-2147483648) ≤ v8_648 ∧ v8_648 ≤ 2147483647) → (mI g_648 a_648) → (∀ j, j ∉ ([90] : List Nat) → g_648 j = g j) → (∀ j, j ∉ ([62, 63, 64, 65, 67, 68, 69, 70] : List Nat) → a_648 j = a j) → va_P (dC, dI) vwCl (mG ad ca g_648 a_648) H → va_D A (mG ad ca g_648 a_648) → va_S A s.heap H locs → lv_has ls 13 [(10, .int (iI (a_454 67 v9_454))), (9, .int (iI v9_454)), (8, .int (iI v8_648)), (7, .int (iI v7_350)), (6, .int (iI v6_52)), (5, .int (iI v5_52)), (4, .int (iI v4_52)), (3, .int (iI z_17)), (0, .ref (ad 0)), (1, .int (iI p1)), (2, .int (iI p2))] → W p l e ({ frames := 8, cells := 0, slots := 0, locals := 200 }) s m ([.ref (ad 0), .int (iI p1), .int (iI p2)] : List Value).toArray below meth c H locs 0 0 Q (F0 m 648 ls []) := by
                              intro v8_648 g_648 a_648 H locs ls h_64 hI hfA haA hP hD hS hl
                              have b_65 : g_648 30 = g 30 := hfA 30 (by decide)
                              refine lv_iinc (v := iI (v9_454 + 1)) (lv' := [(9, .int (iI (v9_454 + 1))), (10, .int (iI (a_454 67 v9_454))), (8, .int (iI v8_648)), (7, .int (iI v7_350)), (6, .int (iI v6_52)), (5, .int (iI v5_52)), (4, .int (iI v4_52)), (3, .int (iI z_17)), (0, .ref (ad 0)), (1, .int (iI p1)), (2, .int (iI p2))]) hx hb dX13_bringsTo_648 hl (k := 1) rfl (iI_add _ _) (by decide) rfl (fun ls hl => ?_)
                              refine lv_goto (tgt := 454) hx hb dX13_bringsTo_651 (by decide) ?_
                              exact ih454 (v9_454 + 1) v8_648 g_648 a_648 H locs ls (by omega) (by omega) hI hfA haA (by omega) hP hD hS (lv_sub hl [0, 2, 3, 4, 5, 6, 7, 8, 9, 10] rfl)
                            refine xr_if_ne (tgt := 648) hx hb dX13_bringsTo_476 (by decide) (by omega) (fun h_66 => ?_) (fun h_66 => ?_)
                            · exact J648 v8_454 g_454 a_454 H locs ls (by omega) hI hfA haA hP hD hS hl
                            · refine lv_aload_n hx hb dX13_bringsTo_479 rfl (lv_at hl 8 rfl) ?_
                              refine gf_kind hx hb hj hown hK hP dX13_bringsTo_480 ?_
                              refine lv_iload hx hb dX13_bringsTo_483 (lv_at hl 0 rfl) ?_
                              refine ld_kind hx hb hK hP hI (by omega) (by omega) dX13_bringsTo_485 (fun h_67 => ?_)
                              refine xr_if_eq (tgt := 492) hx hb dX13_bringsTo_486 (by decide) (by omega) (fun h_68 => ?_) (fun h_68 => ?_)
                              · refine lv_iload hx hb dX13_bringsTo_492 (lv_at hl 2 rfl) ?_
                                have J530 : ∀ (s0_530 : Int) (H : Heap) (locs : List Loc) (ls : Array Slot), ((-2147483648) ≤ s0_530 ∧ s0_530 ≤ 2147483647) → va_P (dC, dI) vwCl (mG ad ca g_454 a_454) H → va_D A (mG ad ca g_454 a_454) → va_S A s.heap H locs → lv_has ls 13 [(10, .int (iI (a_454 67 v9_454))), (9, .int (iI v9_454)), (8, .int (iI v8_454)), (7, .int (iI v7_350)), (6, .int (iI v6_52)), (5, .int (iI v5_52)), (4, .int (iI v4_52)), (3, .int (iI z_17)), (0, .ref (ad 0)), (1, .int (iI p1)), (2, .int (iI p2))] → W p l e ({ frames := 8, cells := 0, slots := 0, locals := 200 }) s m ([.ref (ad 0), .int (iI p1), .int (iI p2)] : List Value).toArray below meth c H locs 0 0 Q (F0 m 530 ls [.int (iI s0_530)]) := by
                                  intro s0_530 H locs ls h_69 hP hD hS hl
                                  refine lv_istore (lv' := [(11, .int (iI s0_530)), (10, .int (iI (a_454 67 v9_454))), (9, .int (iI v9_454)), (8, .int (iI v8_454)), (7, .int (iI v7_350)), (6, .int (iI v6_52)), (5, .int (iI v5_52)), (4, .int (iI v4_52)), (3, .int (iI z_17)), (0, .ref (ad 0)), (1, .int (iI p1)), (2, .int (iI p2))]) hx hb dX13_bringsTo_530 hl (by decide) rfl (fun ls hl => ?_)
                                  refine lv_iload hx hb dX13_bringsTo_532 (lv_at hl 3 rfl) ?_
                                  have J568 : ∀ (s0_568 : Int) (H : Heap) (locs : List Loc) (ls : Array Slot), ((-2147483648) ≤ s0_568 ∧ s0_568 ≤ 2147483647) → va_P (dC, dI) vwCl (mG ad ca g_454 a_454) H → va_D A (mG ad ca g_454 a_454) → va_S A s.heap H locs → lv_has ls 13 [(11, .int (iI s0_530)), (10, .int (iI (a_454 67 v9_454))), (9, .int (iI v9_454)), (8, .int (iI v8_454)), (7, .int (iI v7_350)), (6, .int (iI v6_52)), (5, .int (iI v5_52)), (4, .int (iI v4_52)), (3, .int (iI z_17)), (0, .ref (ad 0)), (1, .int (iI p1)), (2, .int (iI p2))] → W p l e ({ frames := 8, cells := 0, slots := 0, locals := 200 }) s m ([.ref (ad 0), .int (iI p1), .int (iI p2)] : List Value).toArray below meth c H locs 0 0 Q (F0 m 568 ls [.int (iI s0_568)]) := by
                                    intro s0_568 H locs ls h_70 hP hD hS hl
                                    refine lv_istore (lv' := [(12, .int (iI s0_568)), (11, .int (iI s0_530)), (10, .int (iI (a_454 67 v9_454))), (9, .int (iI v9_454)), (8, .int (iI v8_454)), (7, .int (iI v7_350)), (6, .int (iI v6_52)), (5, .int (iI v5_52)), (4, .int (iI v4_52)), (3, .int (iI z_17)), (0, .ref (ad 0)), (1, .int (iI p1)), (2, .int (iI p2))]) hx hb dX13_bringsTo_568 hl (by decide) rfl (fun ls hl => ?_)
                                    refine lv_aload_n hx hb dX13_bringsTo_570 rfl (lv_at hl 10 rfl) ?_
                                    refine gf_longs hx hb hj hown hK hP dX13_bringsTo_571 ?_
                                    refine lv_iload hx hb dX13_bringsTo_574 (lv_at hl 2 rfl) ?_
                                    refine lv_dup2_11 hx hb dX13_bringsTo_576 rfl rfl ?_
                                    refine ld_longs hx hb hK hP hI (by omega) (by omega) dX13_bringsTo_577 (fun h_71 => ?_)
                                    refine lv_iload hx hb dX13_bringsTo_578 (lv_at hl 0 rfl) ?_
                                    refine xr_add hx hb dX13_bringsTo_580 ?_
                                    refine xr_kept (fun z_72 h_73 h_74 => ?_)
                                    refine sa_longs hx hb hK hP hD hS hI (by omega) (by omega) dX13_bringsTo_581 (fun a_75 z_78 H locs h_79 h_80 e_76 e_77 hI hP hD hS => ?_)
                                    have haA : ∀ j, j ∉ ([62, 63, 64, 65, 67, 68, 69, 70] : List Nat) → a_75 j = a j := fun j h => (e_76 j (fun q => h (q ▸ (by decide : 70 ∈ ([62, 63, 64, 65, 67, 68, 69, 70] : List Nat))))).trans (haA j h)
                                    refine lv_iload hx hb dX13_bringsTo_582 (lv_at hl 4 rfl) ?_
                                    refine lv_iload hx hb dX13_bringsTo_584 (lv_at hl 0 rfl) ?_
                                    refine xr_sub hx hb dX13_bringsTo_586 ?_
                                    refine xr_kept (fun z_81 h_82 h_83 => ?_)
                                    refine lv_istore (lv' := [(8, .int (iI z_81)), (12, .int (iI s0_568)), (11, .int (iI s0_530)), (10, .int (iI (a_454 67 v9_454))), (9, .int (iI v9_454)), (7, .int (iI v7_350)), (6, .int (iI v6_52)), (5, .int (iI v5_52)), (4, .int (iI v4_52)), (3, .int (iI z_17)), (0, .ref (ad 0)), (1, .int (iI p1)), (2, .int (iI p2))]) hx hb dX13_bringsTo_587 hl (by decide) rfl (fun ls hl => ?_)
                                    refine lv_aload_n hx hb dX13_bringsTo_589 rfl (lv_at hl 10 rfl) ?_
                                    refine lv_dup hx hb dX13_bringsTo_590 rfl ?_
                                    refine gf_differs hx hb hj hown hK hP hI dX13_bringsTo_591 (fun h_84 => ?_)
                                    refine lv_aload_n hx hb dX13_bringsTo_594 rfl (lv_at hl 10 rfl) ?_
                                    refine gf_longs hx hb hj hown hK hP dX13_bringsTo_595 ?_
                                    refine lv_iload hx hb dX13_bringsTo_598 (lv_at hl 3 rfl) ?_
                                    refine ld_longs hx hb hK hP hI (by omega) (by omega) dX13_bringsTo_600 (fun h_85 => ?_)
                                    refine lv_aload_n hx hb dX13_bringsTo_601 rfl (lv_at hl 10 rfl) ?_
                                    refine gf_asked hx hb hj hown hK hP dX13_bringsTo_602 ?_
                                    refine lv_iload hx hb dX13_bringsTo_605 (lv_at hl 3 rfl) ?_
                                    refine ld_asked hx hb hK hP hI (by omega) (by omega) dX13_bringsTo_607 (fun h_86 => ?_)
                                    have J644 : ∀ (s0_644 : Int) (H : Heap) (locs : List Loc) (ls : Array Slot), ((-2147483648) ≤ s0_644 ∧ s0_644 ≤ 2147483647) → va_P (dC, dI) vwCl (mG ad ca g_454 a_75) H → va_D A (mG ad ca g_454 a_75) → va_S A s.heap H locs → lv_has ls 13 [(8, .int (iI z_81)), (12, .int (iI s0_568)), (11, .int (iI s0_530)), (10, .int (iI (a_454 67 v9_454))), (9, .int (iI v9_454)), (7, .int (iI v7_350)), (6, .int (iI v6_52)), (5, .int (iI v5_52)), (4, .int (iI v4_52)), (3, .int (iI z_17)), (0, .ref (ad 0)), (1, .int (iI p1)), (2, .int (iI p2))] → W p l e ({ frames := 8, cells := 0, slots := 0, locals := 200 }) s m ([.ref (ad 0), .int (iI p1), .int (iI p2)] : List Value).toArray below meth c H locs 0 0 Q (F0 m 644 ls [.int (iI s0_644), .int (iI (g_454 90)), .ref (ad 0)]) := by
                                      intro s0_644 H locs ls h_87 hP hD hS hl
                                      refine xr_add hx hb dX13_bringsTo_644 ?_
                                      refine xr_kept (fun z_88 h_89 h_90 => ?_)
                                      refine pa_differs hx hb hj hown hK hP hD hS hI dX13_bringsTo_645 (fun g_91 z_94 H locs h_95 h_96 e_92 e_93 hI hP hD hS => ?_)
                                      have hfA : ∀ j, j ∉ ([90] : List Nat) → g_91 j = g j := fun j h => (e_92 j (fun q => h (q ▸ (by decide : 90 ∈ ([90] : List Nat))))).trans (hfA j h)
                                      have b_97 : g_91 30 = g 30 := hfA 30 (by decide)
                                      exact J648 z_81 g_91 a_75 H locs ls (by omega) hI hfA haA hP hD hS (lv_sub hl [3, 4, 0, 5, 6, 7, 8, 9, 10, 11, 12] rfl)
                                    refine xr_icmp_ge (tgt := 629) hx hb dX13_bringsTo_608 (by decide) (by omega) (by omega) (fun h_98 => ?_) (fun h_98 => ?_)
                                    · refine lv_aload_n hx hb dX13_bringsTo_629 rfl (lv_at hl 10 rfl) ?_
                                      refine gf_longs hx hb hj hown hK hP dX13_bringsTo_630 ?_
                                      refine lv_iload hx hb dX13_bringsTo_633 (lv_at hl 3 rfl) ?_
                                      refine ld_longs hx hb hK hP hI (by omega) (by omega) dX13_bringsTo_635 (fun h_99 => ?_)
                                      refine lv_aload_n hx hb dX13_bringsTo_636 rfl (lv_at hl 10 rfl) ?_
                                      refine gf_asked hx hb hj hown hK hP dX13_bringsTo_637 ?_
                                      refine lv_iload hx hb dX13_bringsTo_640 (lv_at hl 3 rfl) ?_
                                      refine ld_asked hx hb hK hP hI (by omega) (by omega) dX13_bringsTo_642 (fun h_100 => ?_)
                                      refine xr_sub hx hb dX13_bringsTo_643 ?_
                                      refine xr_kept (fun z_101 h_102 h_103 => ?_)
                                      exact J644 z_101 H locs ls (by omega) hP hD hS hl
                                    · refine lv_aload_n hx hb dX13_bringsTo_611 rfl (lv_at hl 10 rfl) ?_
                                      refine gf_asked hx hb hj hown hK hP dX13_bringsTo_612 ?_
                                      refine lv_iload hx hb dX13_bringsTo_615 (lv_at hl 3 rfl) ?_
                                      refine ld_asked hx hb hK hP hI (by omega) (by omega) dX13_bringsTo_617 (fun h_104 => ?_)
                                      refine lv_aload_n hx hb dX13_bringsTo_618 rfl (lv_at hl 10 rfl) ?_
                                      refine gf_longs hx hb hj hown hK hP dX13_bringsTo_619 ?_
                                      refine lv_iload hx hb dX13_bringsTo_622 (lv_at hl 3 rfl) ?_
                                      refine ld_longs hx hb hK hP hI (by omega) (by omega) dX13_bringsTo_624 (fun h_105 => ?_)
                                      refine xr_sub hx hb dX13_bringsTo_625 ?_
                                      refine xr_kept (fun z_106 h_107 h_108 => ?_)
                                      refine lv_goto (tgt := 644) hx hb dX13_bringsTo_626 (by decide) ?_
                                      exact J644 z_106 H locs ls (by omega) hP hD hS hl
                                  refine xr_if_le (tgt := 554) hx hb dX13_bringsTo_534 (by decide) (by omega) (fun h_109 => ?_) (fun h_109 => ?_)
                                  · refine lv_iload hx hb dX13_bringsTo_554 (lv_at hl 3 rfl) ?_
                                    refine lv_iload hx hb dX13_bringsTo_556 (lv_at hl 0 rfl) ?_
                                    refine xr_icmp_le (tgt := 566) hx hb dX13_bringsTo_558 (by decide) (by omega) (by omega) (fun h_110 => ?_) (fun h_110 => ?_)
                                    · refine lv_iload hx hb dX13_bringsTo_566 (lv_at hl 0 rfl) ?_
                                      exact J568 s0_530 H locs ls (by omega) hP hD hS hl
                                    · refine lv_iload hx hb dX13_bringsTo_561 (lv_at hl 3 rfl) ?_
                                      refine lv_goto (tgt := 568) hx hb dX13_bringsTo_563 (by decide) ?_
                                      exact J568 v8_454 H locs ls (by omega) hP hD hS hl
                                  · refine lv_iload hx hb dX13_bringsTo_537 (lv_at hl 3 rfl) ?_
                                    refine lv_iload hx hb dX13_bringsTo_539 (lv_at hl 0 rfl) ?_
                                    refine xr_icmp_ge (tgt := 549) hx hb dX13_bringsTo_541 (by decide) (by omega) (by omega) (fun h_111 => ?_) (fun h_111 => ?_)
                                    · refine lv_iload hx hb dX13_bringsTo_549 (lv_at hl 0 rfl) ?_
                                      refine lv_goto (tgt := 568) hx hb dX13_bringsTo_551 (by decide) ?_
                                      exact J568 s0_530 H locs ls (by omega) hP hD hS hl
                                    · refine lv_iload hx hb dX13_bringsTo_544 (lv_at hl 3 rfl) ?_
                                      refine lv_goto (tgt := 568) hx hb dX13_bringsTo_546 (by decide) ?_
                                      exact J568 v8_454 H locs ls (by omega) hP hD hS hl
                                refine xr_if_le (tgt := 515) hx hb dX13_bringsTo_494 (by decide) (by omega) (fun h_112 => ?_) (fun h_112 => ?_)
                                · refine lv_aload_n hx hb dX13_bringsTo_515 rfl (lv_at hl 8 rfl) ?_
                                  refine gf_low hx hb hj hown hK hP dX13_bringsTo_516 ?_
                                  refine lv_iload hx hb dX13_bringsTo_519 (lv_at hl 0 rfl) ?_
                                  refine ld_low hx hb hK hP hI (by omega) (by omega) dX13_bringsTo_521 (fun h_113 => ?_)
                                  refine lv_aload_n hx hb dX13_bringsTo_522 rfl (lv_at hl 8 rfl) ?_
                                  refine gf_longs hx hb hj hown hK hP dX13_bringsTo_523 ?_
                                  refine lv_iload hx hb dX13_bringsTo_526 (lv_at hl 0 rfl) ?_
                                  refine ld_longs hx hb hK hP hI (by omega) (by omega) dX13_bringsTo_528 (fun h_114 => ?_)
                                  refine xr_sub hx hb dX13_bringsTo_529 ?_
                                  refine xr_kept (fun z_115 h_116 h_117 => ?_)
                                  exact J530 z_115 H locs ls (by omega) hP hD hS hl
                                · refine lv_aload_n hx hb dX13_bringsTo_497 rfl (lv_at hl 8 rfl) ?_
                                  refine gf_high hx hb hj hown hK hP dX13_bringsTo_498 ?_
                                  refine lv_iload hx hb dX13_bringsTo_501 (lv_at hl 0 rfl) ?_
                                  refine ld_high hx hb hK hP hI (by omega) (by omega) dX13_bringsTo_503 (fun h_118 => ?_)
                                  refine lv_aload_n hx hb dX13_bringsTo_504 rfl (lv_at hl 8 rfl) ?_
                                  refine gf_longs hx hb hj hown hK hP dX13_bringsTo_505 ?_
                                  refine lv_iload hx hb dX13_bringsTo_508 (lv_at hl 0 rfl) ?_
                                  refine ld_longs hx hb hK hP hI (by omega) (by omega) dX13_bringsTo_510 (fun h_119 => ?_)
                                  refine xr_sub hx hb dX13_bringsTo_511 ?_
                                  refine xr_kept (fun z_120 h_121 h_122 => ?_)
                                  refine lv_goto (tgt := 530) hx hb dX13_bringsTo_512 (by decide) ?_
                                  exact J530 z_120 H locs ls (by omega) hP hD hS hl
                              · refine lv_goto (tgt := 648) hx hb dX13_bringsTo_489 (by decide) ?_
                                exact J648 v8_454 g_454 a_454 H locs ls (by omega) hI hfA haA hP hD hS hl
                      exact L454 (((z_17 - 0 : Int)).toNat + 1) 0 z_52 g_24 a_52 H locs ls (by omega) (by omega) hI hfA haA (by omega) hP hD hS hl
                    · refine lv_iconst (v := iI (-1)) hx hb dX13_bringsTo_442 rfl ?_
                      rw [← hQ]
                      exact W.iret (v := iI (-1)) hx hb hr (fun t ht hW => ⟨⟨iI (-1), (g_24, a_52), rfl, ⟨(-1), rfl, hI, hfA, haA, by omega⟩, by rw [ht]; exact hP, va_K.moved hW.alike hK, hD⟩, hS.F ht⟩) hS.2.2 dX13_bringsTo_443
                  · refine lv_iload hx hb dX13_bringsTo_357 (lv_at hl 0 rfl) ?_
                    refine lv_iload hx hb dX13_bringsTo_359 (lv_at hl 3 rfl) ?_
                    have J427 : ∀ (v7_427 : Int) (H : Heap) (locs : List Loc) (ls : Array Slot), ((-2147483648) ≤ v7_427 ∧ v7_427 ≤ 2147483647) → va_P (dC, dI) vwCl (mG ad ca g_24 a_52) H → va_D A (mG ad ca g_24 a_52) → va_S A s.heap H locs → lv_has ls 13 [(8, .int (iI v8_350)), (7, .int (iI v7_427)), (6, .int (iI v6_52)), (5, .int (iI v5_52)), (4, .int (iI v4_52)), (3, .int (iI z_17)), (0, .ref (ad 0)), (1, .int (iI p1)), (2, .int (iI p2))] → W p l e ({ frames := 8, cells := 0, slots := 0, locals := 200 }) s m ([.ref (ad 0), .int (iI p1), .int (iI p2)] : List Value).toArray below meth c H locs 0 0 Q (F0 m 427 ls []) := by
                      intro v7_427 H locs ls h_123 hP hD hS hl
                      refine lv_iload hx hb dX13_bringsTo_427 (lv_at hl 0 rfl) ?_
                      refine lv_iload_n hx hb dX13_bringsTo_429 rfl (lv_at hl 8 rfl) ?_
                      refine xr_add hx hb dX13_bringsTo_430 ?_
                      refine xr_kept (fun z_124 h_125 h_126 => ?_)
                      refine lv_istore (lv' := [(8, .int (iI z_124)), (7, .int (iI v7_427)), (6, .int (iI v6_52)), (5, .int (iI v5_52)), (4, .int (iI v4_52)), (3, .int (iI z_17)), (0, .ref (ad 0)), (1, .int (iI p1)), (2, .int (iI p2))]) hx hb dX13_bringsTo_431 hl (by decide) rfl (fun ls hl => ?_)
                      refine lv_goto (tgt := 350) hx hb dX13_bringsTo_433 (by decide) ?_
                      exact ih350 z_124 v7_427 H locs ls (by omega) (by omega) (by omega) (by omega) hP hD hS hl
                    refine xr_icmp_ge (tgt := 367) hx hb dX13_bringsTo_361 (by decide) (by omega) (by omega) (fun h_127 => ?_) (fun h_127 => ?_)
                    · refine lv_iload hx hb dX13_bringsTo_367 (lv_at hl 0 rfl) ?_
                      refine lv_iload hx hb dX13_bringsTo_369 (lv_at hl 4 rfl) ?_
                      have J387 : ∀ (s0_387 : Int) (H : Heap) (locs : List Loc) (ls : Array Slot), ((-2147483648) ≤ s0_387 ∧ s0_387 ≤ 2147483647) → va_P (dC, dI) vwCl (mG ad ca g_24 a_52) H → va_D A (mG ad ca g_24 a_52) → va_S A s.heap H locs → lv_has ls 13 [(8, .int (iI v8_350)), (7, .int (iI v7_350)), (6, .int (iI v6_52)), (5, .int (iI v5_52)), (4, .int (iI v4_52)), (3, .int (iI z_17)), (0, .ref (ad 0)), (1, .int (iI p1)), (2, .int (iI p2))] → W p l e ({ frames := 8, cells := 0, slots := 0, locals := 200 }) s m ([.ref (ad 0), .int (iI p1), .int (iI p2)] : List Value).toArray below meth c H locs 0 0 Q (F0 m 387 ls [.int (iI s0_387)]) := by
                        intro s0_387 H locs ls h_128 hP hD hS hl
                        refine lv_istore (lv' := [(9, .int (iI s0_387)), (8, .int (iI v8_350)), (7, .int (iI v7_350)), (6, .int (iI v6_52)), (5, .int (iI v5_52)), (4, .int (iI v4_52)), (3, .int (iI z_17)), (0, .ref (ad 0)), (1, .int (iI p1)), (2, .int (iI p2))]) hx hb dX13_bringsTo_387 hl (by decide) rfl (fun ls hl => ?_)
                        refine lv_iload hx hb dX13_bringsTo_389 (lv_at hl 2 rfl) ?_
                        refine lv_iconst (v := iI (-1)) hx hb dX13_bringsTo_391 rfl ?_
                        have J423 : ∀ (H : Heap) (locs : List Loc) (ls : Array Slot), va_P (dC, dI) vwCl (mG ad ca g_24 a_52) H → va_D A (mG ad ca g_24 a_52) → va_S A s.heap H locs → lv_has ls 13 [(9, .int (iI s0_387)), (8, .int (iI v8_350)), (7, .int (iI v7_350)), (6, .int (iI v6_52)), (5, .int (iI v5_52)), (4, .int (iI v4_52)), (3, .int (iI z_17)), (0, .ref (ad 0)), (1, .int (iI p1)), (2, .int (iI p2))] → W p l e ({ frames := 8, cells := 0, slots := 0, locals := 200 }) s m ([.ref (ad 0), .int (iI p1), .int (iI p2)] : List Value).toArray below meth c H locs 0 0 Q (F0 m 423 ls []) := by
                          intro H locs ls hP hD hS hl
                          refine lv_iload hx hb dX13_bringsTo_423 (lv_at hl 1 rfl) ?_
                          refine lv_istore (lv' := [(7, .int (iI v8_350)), (9, .int (iI s0_387)), (8, .int (iI v8_350)), (6, .int (iI v6_52)), (5, .int (iI v5_52)), (4, .int (iI v4_52)), (3, .int (iI z_17)), (0, .ref (ad 0)), (1, .int (iI p1)), (2, .int (iI p2))]) hx hb dX13_bringsTo_425 hl (by decide) rfl (fun ls hl => ?_)
                          exact J427 v8_350 H locs ls (by omega) hP hD hS (lv_sub hl [2, 0, 3, 4, 5, 6, 7, 8, 9] rfl)
                        refine xr_icmp_eq (tgt := 423) hx hb dX13_bringsTo_392 (by decide) (by omega) (by omega) (fun h_129 => ?_) (fun h_129 => ?_)
                        · exact J423 H locs ls hP hD hS hl
                        · refine lv_iload hx hb dX13_bringsTo_395 (lv_at hl 0 rfl) ?_
                          refine lv_iload hx hb dX13_bringsTo_397 (lv_at hl 2 rfl) ?_
                          refine lv_iload hx hb dX13_bringsTo_399 (lv_at hl 5 rfl) ?_
                          have J417 : ∀ (s0_417 : Int) (H : Heap) (locs : List Loc) (ls : Array Slot), ((-2147483648) ≤ s0_417 ∧ s0_417 ≤ 2147483647) → va_P (dC, dI) vwCl (mG ad ca g_24 a_52) H → va_D A (mG ad ca g_24 a_52) → va_S A s.heap H locs → lv_has ls 13 [(9, .int (iI s0_387)), (8, .int (iI v8_350)), (7, .int (iI v7_350)), (6, .int (iI v6_52)), (5, .int (iI v5_52)), (4, .int (iI v4_52)), (3, .int (iI z_17)), (0, .ref (ad 0)), (1, .int (iI p1)), (2, .int (iI p2))] → W p l e ({ frames := 8, cells := 0, slots := 0, locals := 200 }) s m ([.ref (ad 0), .int (iI p1), .int (iI p2)] : List Value).toArray below meth c H locs 0 0 Q (F0 m 417 ls [.int (iI s0_417), .int (iI s0_387)]) := by
                            intro s0_417 H locs ls h_130 hP hD hS hl
                            refine xr_icmp_lt (tgt := 423) hx hb dX13_bringsTo_417 (by decide) (by omega) (by omega) (fun h_131 => ?_) (fun h_131 => ?_)
                            · exact J423 H locs ls hP hD hS hl
                            · refine lv_goto (tgt := 427) hx hb dX13_bringsTo_420 (by decide) ?_
                              exact J427 v7_350 H locs ls (by omega) hP hD hS (lv_sub hl [1, 2, 3, 4, 5, 6, 7, 8, 9] rfl)
                          refine xr_icmp_ge (tgt := 412) hx hb dX13_bringsTo_401 (by decide) (by omega) (by omega) (fun h_132 => ?_) (fun h_132 => ?_)
                          · refine lv_iload hx hb dX13_bringsTo_412 (lv_at hl 2 rfl) ?_
                            refine lv_iload hx hb dX13_bringsTo_414 (lv_at hl 5 rfl) ?_
                            refine xr_sub hx hb dX13_bringsTo_416 ?_
                            refine xr_kept (fun z_133 h_134 h_135 => ?_)
                            exact J417 z_133 H locs ls (by omega) hP hD hS hl
                          · refine lv_iload hx hb dX13_bringsTo_404 (lv_at hl 5 rfl) ?_
                            refine lv_iload hx hb dX13_bringsTo_406 (lv_at hl 2 rfl) ?_
                            refine xr_sub hx hb dX13_bringsTo_408 ?_
                            refine xr_kept (fun z_136 h_137 h_138 => ?_)
                            refine lv_goto (tgt := 417) hx hb dX13_bringsTo_409 (by decide) ?_
                            exact J417 z_136 H locs ls (by omega) hP hD hS hl
                      refine xr_icmp_ge (tgt := 382) hx hb dX13_bringsTo_371 (by decide) (by omega) (by omega) (fun h_139 => ?_) (fun h_139 => ?_)
                      · refine lv_iload hx hb dX13_bringsTo_382 (lv_at hl 0 rfl) ?_
                        refine lv_iload hx hb dX13_bringsTo_384 (lv_at hl 4 rfl) ?_
                        refine xr_sub hx hb dX13_bringsTo_386 ?_
                        refine xr_kept (fun z_140 h_141 h_142 => ?_)
                        exact J387 z_140 H locs ls (by omega) hP hD hS hl
                      · refine lv_iload hx hb dX13_bringsTo_374 (lv_at hl 4 rfl) ?_
                        refine lv_iload hx hb dX13_bringsTo_376 (lv_at hl 0 rfl) ?_
                        refine xr_sub hx hb dX13_bringsTo_378 ?_
                        refine xr_kept (fun z_143 h_144 h_145 => ?_)
                        refine lv_goto (tgt := 387) hx hb dX13_bringsTo_379 (by decide) ?_
                        exact J387 z_143 H locs ls (by omega) hP hD hS hl
                    · refine lv_goto (tgt := 427) hx hb dX13_bringsTo_364 (by decide) ?_
                      exact J427 v7_350 H locs ls (by omega) hP hD hS hl
              exact L350 (((v6_52 - 0 + 1 : Int)).toNat + 1) 0 (-1) H locs ls (by omega) (by omega) (by omega) (by omega) hP hD hS hl
            · refine lv_aload_n hx hb dX13_bringsTo_58 rfl (lv_at hl 5 rfl) ?_
              refine gf_order hx hb hj hown hK hP dX13_bringsTo_59 ?_
              refine lv_iload hx hb dX13_bringsTo_62 (lv_at hl 0 rfl) ?_
              refine ld_order hx hb hK hP hI (by omega) (by omega) dX13_bringsTo_64 (fun h_146 => ?_)
              refine lv_istore (lv' := [(8, .int (iI (a_52 67 v7_52))), (7, .int (iI v7_52)), (6, .int (iI v6_52)), (5, .int (iI v5_52)), (4, .int (iI v4_52)), (3, .int (iI z_17)), (0, .ref (ad 0)), (1, .int (iI p1)), (2, .int (iI p2))]) hx hb dX13_bringsTo_65 hl (by decide) rfl (fun ls hl => ?_)
              refine lv_aload_n hx hb dX13_bringsTo_67 rfl (lv_at hl 6 rfl) ?_
              refine gf_isStruck hx hb hj hown hK hP dX13_bringsTo_68 ?_
              refine lv_iload hx hb dX13_bringsTo_71 (lv_at hl 0 rfl) ?_
              refine ld_isStruck hx hb hK hP hI (by omega) (by omega) dX13_bringsTo_73 (fun h_147 => ?_)
              have J338 : ∀ (v6_338 v5_338 v4_338 : Int) (a_338 : Nat → Int → Int) (H : Heap) (locs : List Loc) (ls : Array Slot), ((-2147483648) ≤ v6_338 ∧ v6_338 ≤ 2147483647) → ((-2147483648) ≤ v5_338 ∧ v5_338 ≤ 2147483647) → ((-2147483648) ≤ v4_338 ∧ v4_338 ≤ 2147483647) → (0 ≤ v6_338 ∧ v6_338 ≤ 400 * v7_52 + 400) → (mI g_24 a_338) → (∀ j, j ∉ ([62, 63, 64, 65, 67, 68, 69, 70] : List Nat) → a_338 j = a j) → va_P (dC, dI) vwCl (mG ad ca g_24 a_338) H → va_D A (mG ad ca g_24 a_338) → va_S A s.heap H locs → lv_has ls 13 [(8, .int (iI (a_52 67 v7_52))), (7, .int (iI v7_52)), (6, .int (iI v6_338)), (5, .int (iI v5_338)), (4, .int (iI v4_338)), (3, .int (iI z_17)), (0, .ref (ad 0)), (1, .int (iI p1)), (2, .int (iI p2))] → W p l e ({ frames := 8, cells := 0, slots := 0, locals := 200 }) s m ([.ref (ad 0), .int (iI p1), .int (iI p2)] : List Value).toArray below meth c H locs 0 0 Q (F0 m 338 ls []) := by
                intro v6_338 v5_338 v4_338 a_338 H locs ls h_148 h_149 h_150 h_151 hI haA hP hD hS hl
                refine lv_iinc (v := iI (v7_52 + 1)) (lv' := [(7, .int (iI (v7_52 + 1))), (8, .int (iI (a_52 67 v7_52))), (6, .int (iI v6_338)), (5, .int (iI v5_338)), (4, .int (iI v4_338)), (3, .int (iI z_17)), (0, .ref (ad 0)), (1, .int (iI p1)), (2, .int (iI p2))]) hx hb dX13_bringsTo_338 hl (k := 1) rfl (iI_add _ _) (by decide) rfl (fun ls hl => ?_)
                refine lv_goto (tgt := 52) hx hb dX13_bringsTo_341 (by decide) ?_
                exact ih52 (v7_52 + 1) v6_338 v5_338 v4_338 a_338 H locs ls (by omega) (by omega) (by omega) (by omega) (by omega) (by omega) hI haA (by omega) hP hD hS (lv_sub hl [0, 2, 3, 4, 5, 6, 7, 8] rfl)
              refine xr_if_eq (tgt := 80) hx hb dX13_bringsTo_74 (by decide) (by omega) (fun h_152 => ?_) (fun h_152 => ?_)
              · refine lv_aload_n hx hb dX13_bringsTo_80 rfl (lv_at hl 6 rfl) ?_
                refine gf_kind hx hb hj hown hK hP dX13_bringsTo_81 ?_
                refine lv_iload hx hb dX13_bringsTo_84 (lv_at hl 0 rfl) ?_
                refine ld_kind hx hb hK hP hI (by omega) (by omega) dX13_bringsTo_86 (fun h_153 => ?_)
                refine xr_if_eq (tgt := 133) hx hb dX13_bringsTo_87 (by decide) (by omega) (fun h_154 => ?_) (fun h_154 => ?_)
                · refine lv_aload_n hx hb dX13_bringsTo_133 rfl (lv_at hl 6 rfl) ?_
                  refine lv_iload hx hb dX13_bringsTo_134 (lv_at hl 0 rfl) ?_
                  refine lv_aload_n hx hb dX13_bringsTo_136 rfl (lv_at hl 6 rfl) ?_
                  refine gf_givenTo hx hb hj hown hK hP dX13_bringsTo_137 ?_
                  refine lv_iload hx hb dX13_bringsTo_140 (lv_at hl 0 rfl) ?_
                  refine ld_givenTo hx hb hK hP hI (by omega) (by omega) dX13_bringsTo_142 (fun h_155 => ?_)
                  refine jcg_v (va_runV (As := [.int (iI (a_52 67 v7_52)), .int (iI (a_52 32 (a_52 67 v7_52)))]) (rest := []) ⟨hx, hb, hml, hown, hts⟩ (sX13_asks l dC dI _ ad ca g_24 a_52 (a_52 67 v7_52) (a_52 32 (a_52 67 v7_52)) hI (by omega) (by omega) (by omega) (by omega) (rSh_t (hfA 18 (by decide)) (hfA 26 (by decide)) (haA 9 (by decide)) (haA 10 (by decide)) (haA 11 (by decide)) (haA 12 (by decide)) (haA 16 (by decide)) hrSh)) (cwV 2 hts (jgoodV m_267 m_287 m_288 m_503 m_108) rfl rfl rfl (by decide +kernel) ⟨(Nat.le_of_ble_eq_true rfl), (Nat.le_of_ble_eq_true rfl)⟩) ⟨jw_blind, va_recv hK hP (ci := 13) (q0 := 0) rfl rfl, fun U hU hW => ⟨rfl, jw_of hU hW hP hK hD⟩⟩ rfl rfl hl.1 rfl (lv_room (Nat.le_of_ble_eq_true rfl)) dX13_bringsTo_143 ⟨(Nat.le_of_ble_eq_true rfl), (Nat.le_of_ble_eq_true rfl)⟩) hD hS hA (fun u_161 H locs w_157 hP hK hD hS => ?_)
                  obtain ⟨g_159, a_160⟩ := u_161
                  obtain ⟨e_163, hI, hfr_162⟩ := w_157
                  have hP : va_P (dC, dI) vwCl (mG ad ca g_159 a_160) H := hP
                  have hD : va_D A (mG ad ca g_159 a_160) := hD
                  have e_163 : g_24 = g_159 := e_163.symm
                  subst e_163
                  have haA : ∀ j, j ∉ ([62, 63, 64, 65, 67, 68, 69, 70] : List Nat) → a_160 j = a j := fun j h => (hfr_162 j (fun q => h (by first | exact q | (simp only [List.mem_cons, List.not_mem_nil, or_false] at q ⊢ <;> omega)))).trans (haA j h)
                  refine lv_aload_n hx hb dX13_bringsTo_146 rfl (lv_at hl 6 rfl) ?_
                  refine gf_high hx hb hj hown hK hP dX13_bringsTo_147 ?_
                  refine lv_iload hx hb dX13_bringsTo_150 (lv_at hl 0 rfl) ?_
                  refine lv_aload_n hx hb dX13_bringsTo_152 rfl (lv_at hl 6 rfl) ?_
                  refine lv_bipush (v := iI 8) hx hb dX13_bringsTo_153 rfl ?_
                  refine lv_aload_n hx hb dX13_bringsTo_155 rfl (lv_at hl 6 rfl) ?_
                  refine gf_sort hx hb hj hown hK hP dX13_bringsTo_156 ?_
                  refine lv_iload hx hb dX13_bringsTo_159 (lv_at hl 0 rfl) ?_
                  refine ld_sort hx hb hK hP hI (by omega) (by omega) dX13_bringsTo_161 (fun h_164 => ?_)
                  refine xr_add hx hb dX13_bringsTo_162 ?_
                  refine lv_iload_n hx hb dX13_bringsTo_163 rfl (lv_at hl 7 rfl) ?_
                  refine lv_aload_n hx hb dX13_bringsTo_164 rfl (lv_at hl 6 rfl) ?_
                  refine gf_now hx hb hj hown hK hP hI dX13_bringsTo_165 (fun h_165 => ?_)
                  refine jcg_i (va_runV (As := [.int (iI (8 + (a_160 28 (a_52 67 v7_52)))), .int (iI p1), .int (iI (g_24 30))]) (rest := [.int (iI (a_52 67 v7_52)), .ref (ad 69)]) ⟨hx, hb, hml, hown, hts⟩ (sX13_tells l dC dI _ ad ca g_24 a_160 (8 + (a_160 28 (a_52 67 v7_52))) p1 (g_24 30) hI (by omega) (by omega) (by omega) (by omega) (rSh_t (hfA 18 (by decide)) (hfA 26 (by decide)) (haA 9 (by decide)) (haA 10 (by decide)) (haA 11 (by decide)) (haA 12 (by decide)) (haA 16 (by decide)) hrSh)) (cwV 3 hts (jgoodV m_249 m_484 m_485 m_503 m_210) rfl rfl rfl (by decide +kernel) ⟨(Nat.le_of_ble_eq_true rfl), (Nat.le_of_ble_eq_true rfl)⟩) ⟨jw_blind, va_recv hK hP (ci := 13) (q0 := 0) rfl rfl, fun U hU hW => ⟨rfl, jw_of hU hW hP hK hD⟩⟩ rfl rfl hl.1 rfl (lv_room (Nat.le_of_ble_eq_true rfl)) dX13_bringsTo_168 ⟨(Nat.le_of_ble_eq_true rfl), (Nat.le_of_ble_eq_true rfl)⟩) hD hS hA (fun r_166 u_172 H locs w_167 hP hK hD hS => ?_)
                  obtain ⟨g_170, a_171⟩ := u_172
                  obtain ⟨z_168, rfl, e_174, hI, hfr_173, h_169⟩ := w_167
                  have hP : va_P (dC, dI) vwCl (mG ad ca g_170 a_171) H := hP
                  have hD : va_D A (mG ad ca g_170 a_171) := hD
                  have e_174 : g_24 = g_170 := e_174.symm
                  subst e_174
                  have haA : ∀ j, j ∉ ([62, 63, 64, 65, 67, 68, 69, 70] : List Nat) → a_171 j = a j := fun j h => (hfr_173 j (fun q => h (by first | exact q | (simp only [List.mem_cons, List.not_mem_nil, or_false] at q ⊢ <;> omega)))).trans (haA j h)
                  refine jc_i (va_runS (As := [.int (iI z_168)]) (rest := [.int (iI (a_52 67 v7_52)), .ref (ad 69)]) ⟨hx, hb, hml, hown, hts⟩ (sX13_bounded l dC dI _ z_168 (by omega)) (va_cwS 1 hts (jgoodS m_279 m_299 m_503 m_114) rfl rfl rfl (by decide +kernel) ⟨(Nat.le_of_ble_eq_true rfl), (Nat.le_of_ble_eq_true rfl)⟩) ⟨jw_blind0, fun U hU hW => ⟨rfl, congrArg Array.size hU⟩⟩ rfl rfl hl.1 rfl (lv_room (Nat.le_of_ble_eq_true rfl)) dX13_bringsTo_171 ⟨(Nat.le_of_ble_eq_true rfl), (Nat.le_of_ble_eq_true rfl)⟩) hP hS hA (fun r_175 H locs w_176 hP hS => ?_)
                  obtain ⟨z_177, rfl, h_178⟩ := w_176
                  refine st_high hx hb hK hP hD hS hI (by omega) (by omega) (by omega) (by omega) dX13_bringsTo_174 (fun a_179 H locs e_180 e_181 hI hP hD hS => ?_)
                  have haA : ∀ j, j ∉ ([62, 63, 64, 65, 67, 68, 69, 70] : List Nat) → a_179 j = a j := fun j h => (e_180 j (fun q => h (q ▸ (by decide : 69 ∈ ([62, 63, 64, 65, 67, 68, 69, 70] : List Nat))))).trans (haA j h)
                  refine lv_aload_n hx hb dX13_bringsTo_175 rfl (lv_at hl 6 rfl) ?_
                  refine gf_low hx hb hj hown hK hP dX13_bringsTo_176 ?_
                  refine lv_iload hx hb dX13_bringsTo_179 (lv_at hl 0 rfl) ?_
                  refine lv_aload_n hx hb dX13_bringsTo_181 rfl (lv_at hl 6 rfl) ?_
                  refine lv_iconst (v := iI 5) hx hb dX13_bringsTo_182 rfl ?_
                  refine lv_aload_n hx hb dX13_bringsTo_183 rfl (lv_at hl 6 rfl) ?_
                  refine gf_sort hx hb hj hown hK hP dX13_bringsTo_184 ?_
                  refine lv_iload hx hb dX13_bringsTo_187 (lv_at hl 0 rfl) ?_
                  refine ld_sort hx hb hK hP hI (by omega) (by omega) dX13_bringsTo_189 (fun h_182 => ?_)
                  refine xr_add hx hb dX13_bringsTo_190 ?_
                  refine lv_iload_n hx hb dX13_bringsTo_191 rfl (lv_at hl 7 rfl) ?_
                  refine lv_aload_n hx hb dX13_bringsTo_192 rfl (lv_at hl 6 rfl) ?_
                  refine gf_now hx hb hj hown hK hP hI dX13_bringsTo_193 (fun h_183 => ?_)
                  refine jcg_i (va_runV (As := [.int (iI (5 + (a_179 28 (a_52 67 v7_52)))), .int (iI p1), .int (iI (g_24 30))]) (rest := [.int (iI (a_52 67 v7_52)), .ref (ad 68)]) ⟨hx, hb, hml, hown, hts⟩ (sX13_tells l dC dI _ ad ca g_24 a_179 (5 + (a_179 28 (a_52 67 v7_52))) p1 (g_24 30) hI (by omega) (by omega) (by omega) (by omega) (rSh_t (hfA 18 (by decide)) (hfA 26 (by decide)) (haA 9 (by decide)) (haA 10 (by decide)) (haA 11 (by decide)) (haA 12 (by decide)) (haA 16 (by decide)) hrSh)) (cwV 3 hts (jgoodV m_249 m_484 m_485 m_503 m_210) rfl rfl rfl (by decide +kernel) ⟨(Nat.le_of_ble_eq_true rfl), (Nat.le_of_ble_eq_true rfl)⟩) ⟨jw_blind, va_recv hK hP (ci := 13) (q0 := 0) rfl rfl, fun U hU hW => ⟨rfl, jw_of hU hW hP hK hD⟩⟩ rfl rfl hl.1 rfl (lv_room (Nat.le_of_ble_eq_true rfl)) dX13_bringsTo_196 ⟨(Nat.le_of_ble_eq_true rfl), (Nat.le_of_ble_eq_true rfl)⟩) hD hS hA (fun r_184 u_190 H locs w_185 hP hK hD hS => ?_)
                  obtain ⟨g_188, a_189⟩ := u_190
                  obtain ⟨z_186, rfl, e_192, hI, hfr_191, h_187⟩ := w_185
                  have hP : va_P (dC, dI) vwCl (mG ad ca g_188 a_189) H := hP
                  have hD : va_D A (mG ad ca g_188 a_189) := hD
                  have e_192 : g_24 = g_188 := e_192.symm
                  subst e_192
                  have haA : ∀ j, j ∉ ([62, 63, 64, 65, 67, 68, 69, 70] : List Nat) → a_189 j = a j := fun j h => (hfr_191 j (fun q => h (by first | exact q | (simp only [List.mem_cons, List.not_mem_nil, or_false] at q ⊢ <;> omega)))).trans (haA j h)
                  refine jc_i (va_runS (As := [.int (iI z_186)]) (rest := [.int (iI (a_52 67 v7_52)), .ref (ad 68)]) ⟨hx, hb, hml, hown, hts⟩ (sX13_bounded l dC dI _ z_186 (by omega)) (va_cwS 1 hts (jgoodS m_279 m_299 m_503 m_114) rfl rfl rfl (by decide +kernel) ⟨(Nat.le_of_ble_eq_true rfl), (Nat.le_of_ble_eq_true rfl)⟩) ⟨jw_blind0, fun U hU hW => ⟨rfl, congrArg Array.size hU⟩⟩ rfl rfl hl.1 rfl (lv_room (Nat.le_of_ble_eq_true rfl)) dX13_bringsTo_199 ⟨(Nat.le_of_ble_eq_true rfl), (Nat.le_of_ble_eq_true rfl)⟩) hP hS hA (fun r_193 H locs w_194 hP hS => ?_)
                  obtain ⟨z_195, rfl, h_196⟩ := w_194
                  refine st_low hx hb hK hP hD hS hI (by omega) (by omega) (by omega) (by omega) dX13_bringsTo_202 (fun a_197 H locs e_198 e_199 hI hP hD hS => ?_)
                  have haA : ∀ j, j ∉ ([62, 63, 64, 65, 67, 68, 69, 70] : List Nat) → a_197 j = a j := fun j h => (e_198 j (fun q => h (q ▸ (by decide : 68 ∈ ([62, 63, 64, 65, 67, 68, 69, 70] : List Nat))))).trans (haA j h)
                  refine lv_aload_n hx hb dX13_bringsTo_203 rfl (lv_at hl 6 rfl) ?_
                  refine gf_low hx hb hj hown hK hP dX13_bringsTo_204 ?_
                  refine lv_iload hx hb dX13_bringsTo_207 (lv_at hl 0 rfl) ?_
                  refine ld_low hx hb hK hP hI (by omega) (by omega) dX13_bringsTo_209 (fun h_200 => ?_)
                  refine lv_aload_n hx hb dX13_bringsTo_210 rfl (lv_at hl 6 rfl) ?_
                  refine gf_high hx hb hj hown hK hP dX13_bringsTo_211 ?_
                  refine lv_iload hx hb dX13_bringsTo_214 (lv_at hl 0 rfl) ?_
                  refine ld_high hx hb hK hP hI (by omega) (by omega) dX13_bringsTo_216 (fun h_201 => ?_)
                  have J234 : ∀ (a_234 : Nat → Int → Int) (H : Heap) (locs : List Loc) (ls : Array Slot), (mI g_24 a_234) → (∀ j, j ∉ ([62, 63, 64, 65, 67, 68, 69, 70] : List Nat) → a_234 j = a j) → va_P (dC, dI) vwCl (mG ad ca g_24 a_234) H → va_D A (mG ad ca g_24 a_234) → va_S A s.heap H locs → lv_has ls 13 [(8, .int (iI (a_52 67 v7_52))), (7, .int (iI v7_52)), (6, .int (iI v6_52)), (5, .int (iI v5_52)), (4, .int (iI v4_52)), (3, .int (iI z_17)), (0, .ref (ad 0)), (1, .int (iI p1)), (2, .int (iI p2))] → W p l e ({ frames := 8, cells := 0, slots := 0, locals := 200 }) s m ([.ref (ad 0), .int (iI p1), .int (iI p2)] : List Value).toArray below meth c H locs 0 0 Q (F0 m 234 ls []) := by
                    intro a_234 H locs ls hI haA hP hD hS hl
                    refine lv_aload_n hx hb dX13_bringsTo_234 rfl (lv_at hl 6 rfl) ?_
                    refine gf_longs hx hb hj hown hK hP dX13_bringsTo_235 ?_
                    refine lv_iload hx hb dX13_bringsTo_238 (lv_at hl 0 rfl) ?_
                    refine lv_aload_n hx hb dX13_bringsTo_240 rfl (lv_at hl 6 rfl) ?_
                    refine gf_asked hx hb hj hown hK hP dX13_bringsTo_241 ?_
                    refine lv_iload hx hb dX13_bringsTo_244 (lv_at hl 0 rfl) ?_
                    refine ld_asked hx hb hK hP hI (by omega) (by omega) dX13_bringsTo_246 (fun h_202 => ?_)
                    refine lv_aload_n hx hb dX13_bringsTo_247 rfl (lv_at hl 6 rfl) ?_
                    refine gf_low hx hb hj hown hK hP dX13_bringsTo_248 ?_
                    refine lv_iload hx hb dX13_bringsTo_251 (lv_at hl 0 rfl) ?_
                    refine ld_low hx hb hK hP hI (by omega) (by omega) dX13_bringsTo_253 (fun h_203 => ?_)
                    have J301 : ∀ (s0_301 : Int) (H : Heap) (locs : List Loc) (ls : Array Slot), (0 ≤ s0_301 ∧ s0_301 ≤ 400) → va_P (dC, dI) vwCl (mG ad ca g_24 a_234) H → va_D A (mG ad ca g_24 a_234) → va_S A s.heap H locs → lv_has ls 13 [(8, .int (iI (a_52 67 v7_52))), (7, .int (iI v7_52)), (6, .int (iI v6_52)), (5, .int (iI v5_52)), (4, .int (iI v4_52)), (3, .int (iI z_17)), (0, .ref (ad 0)), (1, .int (iI p1)), (2, .int (iI p2))] → W p l e ({ frames := 8, cells := 0, slots := 0, locals := 200 }) s m ([.ref (ad 0), .int (iI p1), .int (iI p2)] : List Value).toArray below meth c H locs 0 0 Q (F0 m 301 ls [.int (iI s0_301), .int (iI (a_52 67 v7_52)), .ref (ad 70)]) := by
                      intro s0_301 H locs ls h_204 hP hD hS hl
                      refine sa_longs hx hb hK hP hD hS hI (by omega) (by omega) dX13_bringsTo_301 (fun a_205 z_208 H locs h_209 h_210 e_206 e_207 hI hP hD hS => ?_)
                      have haA : ∀ j, j ∉ ([62, 63, 64, 65, 67, 68, 69, 70] : List Nat) → a_205 j = a j := fun j h => (e_206 j (fun q => h (q ▸ (by decide : 70 ∈ ([62, 63, 64, 65, 67, 68, 69, 70] : List Nat))))).trans (haA j h)
                      refine lv_iload hx hb dX13_bringsTo_302 (lv_at hl 4 rfl) ?_
                      refine lv_aload_n hx hb dX13_bringsTo_304 rfl (lv_at hl 6 rfl) ?_
                      refine gf_longs hx hb hj hown hK hP dX13_bringsTo_305 ?_
                      refine lv_iload hx hb dX13_bringsTo_308 (lv_at hl 0 rfl) ?_
                      refine ld_longs hx hb hK hP hI (by omega) (by omega) dX13_bringsTo_310 (fun h_211 => ?_)
                      refine xr_add hx hb dX13_bringsTo_311 ?_
                      refine xr_kept (fun z_212 h_213 h_214 => ?_)
                      refine lv_istore (lv' := [(4, .int (iI z_212)), (8, .int (iI (a_52 67 v7_52))), (7, .int (iI v7_52)), (6, .int (iI v6_52)), (5, .int (iI v5_52)), (3, .int (iI z_17)), (0, .ref (ad 0)), (1, .int (iI p1)), (2, .int (iI p2))]) hx hb dX13_bringsTo_312 hl (by decide) rfl (fun ls hl => ?_)
                      refine lv_iload hx hb dX13_bringsTo_314 (lv_at hl 4 rfl) ?_
                      refine lv_aload_n hx hb dX13_bringsTo_316 rfl (lv_at hl 6 rfl) ?_
                      refine gf_low hx hb hj hown hK hP dX13_bringsTo_317 ?_
                      refine lv_iload hx hb dX13_bringsTo_320 (lv_at hl 1 rfl) ?_
                      refine ld_low hx hb hK hP hI (by omega) (by omega) dX13_bringsTo_322 (fun h_215 => ?_)
                      refine xr_add hx hb dX13_bringsTo_323 ?_
                      refine xr_kept (fun z_216 h_217 h_218 => ?_)
                      refine lv_istore (lv' := [(5, .int (iI z_216)), (4, .int (iI z_212)), (8, .int (iI (a_52 67 v7_52))), (7, .int (iI v7_52)), (6, .int (iI v6_52)), (3, .int (iI z_17)), (0, .ref (ad 0)), (1, .int (iI p1)), (2, .int (iI p2))]) hx hb dX13_bringsTo_324 hl (by decide) rfl (fun ls hl => ?_)
                      refine lv_iload hx hb dX13_bringsTo_326 (lv_at hl 4 rfl) ?_
                      refine lv_aload_n hx hb dX13_bringsTo_328 rfl (lv_at hl 6 rfl) ?_
                      refine gf_high hx hb hj hown hK hP dX13_bringsTo_329 ?_
                      refine lv_iload hx hb dX13_bringsTo_332 (lv_at hl 2 rfl) ?_
                      refine ld_high hx hb hK hP hI (by omega) (by omega) dX13_bringsTo_334 (fun h_219 => ?_)
                      refine xr_add hx hb dX13_bringsTo_335 ?_
                      refine xr_kept (fun z_220 h_221 h_222 => ?_)
                      refine lv_istore (lv' := [(6, .int (iI z_220)), (5, .int (iI z_216)), (4, .int (iI z_212)), (8, .int (iI (a_52 67 v7_52))), (7, .int (iI v7_52)), (3, .int (iI z_17)), (0, .ref (ad 0)), (1, .int (iI p1)), (2, .int (iI p2))]) hx hb dX13_bringsTo_336 hl (by decide) rfl (fun ls hl => ?_)
                      exact J338 z_220 z_216 z_212 a_205 H locs ls (by omega) (by omega) (by omega) (by omega) hI haA hP hD hS (lv_sub hl [3, 4, 0, 1, 2, 5, 6, 7, 8] rfl)
                    refine xr_icmp_ge (tgt := 267) hx hb dX13_bringsTo_254 (by decide) (by omega) (by omega) (fun h_223 => ?_) (fun h_223 => ?_)
                    · refine lv_aload_n hx hb dX13_bringsTo_267 rfl (lv_at hl 6 rfl) ?_
                      refine gf_asked hx hb hj hown hK hP dX13_bringsTo_268 ?_
                      refine lv_iload hx hb dX13_bringsTo_271 (lv_at hl 0 rfl) ?_
                      refine ld_asked hx hb hK hP hI (by omega) (by omega) dX13_bringsTo_273 (fun h_224 => ?_)
                      refine lv_aload_n hx hb dX13_bringsTo_274 rfl (lv_at hl 6 rfl) ?_
                      refine gf_high hx hb hj hown hK hP dX13_bringsTo_275 ?_
                      refine lv_iload hx hb dX13_bringsTo_278 (lv_at hl 0 rfl) ?_
                      refine ld_high hx hb hK hP hI (by omega) (by omega) dX13_bringsTo_280 (fun h_225 => ?_)
                      refine xr_icmp_le (tgt := 294) hx hb dX13_bringsTo_281 (by decide) (by omega) (by omega) (fun h_226 => ?_) (fun h_226 => ?_)
                      · refine lv_aload_n hx hb dX13_bringsTo_294 rfl (lv_at hl 6 rfl) ?_
                        refine gf_asked hx hb hj hown hK hP dX13_bringsTo_295 ?_
                        refine lv_iload hx hb dX13_bringsTo_298 (lv_at hl 0 rfl) ?_
                        refine ld_asked hx hb hK hP hI (by omega) (by omega) dX13_bringsTo_300 (fun h_227 => ?_)
                        exact J301 (a_234 30 (a_52 67 v7_52)) H locs ls (by omega) hP hD hS hl
                      · refine lv_aload_n hx hb dX13_bringsTo_284 rfl (lv_at hl 6 rfl) ?_
                        refine gf_high hx hb hj hown hK hP dX13_bringsTo_285 ?_
                        refine lv_iload hx hb dX13_bringsTo_288 (lv_at hl 0 rfl) ?_
                        refine ld_high hx hb hK hP hI (by omega) (by omega) dX13_bringsTo_290 (fun h_228 => ?_)
                        refine lv_goto (tgt := 301) hx hb dX13_bringsTo_291 (by decide) ?_
                        exact J301 (a_234 69 (a_52 67 v7_52)) H locs ls (by omega) hP hD hS hl
                    · refine lv_aload_n hx hb dX13_bringsTo_257 rfl (lv_at hl 6 rfl) ?_
                      refine gf_low hx hb hj hown hK hP dX13_bringsTo_258 ?_
                      refine lv_iload hx hb dX13_bringsTo_261 (lv_at hl 0 rfl) ?_
                      refine ld_low hx hb hK hP hI (by omega) (by omega) dX13_bringsTo_263 (fun h_229 => ?_)
                      refine lv_goto (tgt := 301) hx hb dX13_bringsTo_264 (by decide) ?_
                      exact J301 (a_234 68 (a_52 67 v7_52)) H locs ls (by omega) hP hD hS hl
                  refine xr_icmp_le (tgt := 234) hx hb dX13_bringsTo_217 (by decide) (by omega) (by omega) (fun h_230 => ?_) (fun h_230 => ?_)
                  · exact J234 a_197 H locs ls hI haA hP hD hS hl
                  · refine lv_aload_n hx hb dX13_bringsTo_220 rfl (lv_at hl 6 rfl) ?_
                    refine gf_low hx hb hj hown hK hP dX13_bringsTo_221 ?_
                    refine lv_iload hx hb dX13_bringsTo_224 (lv_at hl 0 rfl) ?_
                    refine lv_aload_n hx hb dX13_bringsTo_226 rfl (lv_at hl 6 rfl) ?_
                    refine gf_high hx hb hj hown hK hP dX13_bringsTo_227 ?_
                    refine lv_iload hx hb dX13_bringsTo_230 (lv_at hl 0 rfl) ?_
                    refine ld_high hx hb hK hP hI (by omega) (by omega) dX13_bringsTo_232 (fun h_231 => ?_)
                    refine st_low hx hb hK hP hD hS hI (by omega) (by omega) (by omega) (by omega) dX13_bringsTo_233 (fun a_232 H locs e_233 e_234 hI hP hD hS => ?_)
                    have haA : ∀ j, j ∉ ([62, 63, 64, 65, 67, 68, 69, 70] : List Nat) → a_232 j = a j := fun j h => (e_233 j (fun q => h (q ▸ (by decide : 68 ∈ ([62, 63, 64, 65, 67, 68, 69, 70] : List Nat))))).trans (haA j h)
                    exact J234 a_232 H locs ls hI haA hP hD hS hl
                · refine lv_aload_n hx hb dX13_bringsTo_90 rfl (lv_at hl 6 rfl) ?_
                  refine gf_kind hx hb hj hown hK hP dX13_bringsTo_91 ?_
                  refine lv_iload hx hb dX13_bringsTo_94 (lv_at hl 0 rfl) ?_
                  refine ld_kind hx hb hK hP hI (by omega) (by omega) dX13_bringsTo_96 (fun h_235 => ?_)
                  refine lv_iconst (v := iI 1) hx hb dX13_bringsTo_97 rfl ?_
                  have J107 : ∀ (s0_107 : Int) (H : Heap) (locs : List Loc) (ls : Array Slot), (1 ≤ s0_107 ∧ s0_107 ≤ 10) → va_P (dC, dI) vwCl (mG ad ca g_24 a_52) H → va_D A (mG ad ca g_24 a_52) → va_S A s.heap H locs → lv_has ls 13 [(8, .int (iI (a_52 67 v7_52))), (7, .int (iI v7_52)), (6, .int (iI v6_52)), (5, .int (iI v5_52)), (4, .int (iI v4_52)), (3, .int (iI z_17)), (0, .ref (ad 0)), (1, .int (iI p1)), (2, .int (iI p2))] → W p l e ({ frames := 8, cells := 0, slots := 0, locals := 200 }) s m ([.ref (ad 0), .int (iI p1), .int (iI p2)] : List Value).toArray below meth c H locs 0 0 Q (F0 m 107 ls [.int (iI s0_107)]) := by
                    intro s0_107 H locs ls h_236 hP hD hS hl
                    refine lv_istore (lv' := [(9, .int (iI s0_107)), (8, .int (iI (a_52 67 v7_52))), (7, .int (iI v7_52)), (6, .int (iI v6_52)), (5, .int (iI v5_52)), (4, .int (iI v4_52)), (3, .int (iI z_17)), (0, .ref (ad 0)), (1, .int (iI p1)), (2, .int (iI p2))]) hx hb dX13_bringsTo_107 hl (by decide) rfl (fun ls hl => ?_)
                    refine lv_iload hx hb dX13_bringsTo_109 (lv_at hl 5 rfl) ?_
                    refine lv_iload hx hb dX13_bringsTo_111 (lv_at hl 0 rfl) ?_
                    refine xr_add hx hb dX13_bringsTo_113 ?_
                    refine xr_kept (fun z_237 h_238 h_239 => ?_)
                    refine lv_istore (lv' := [(4, .int (iI z_237)), (9, .int (iI s0_107)), (8, .int (iI (a_52 67 v7_52))), (7, .int (iI v7_52)), (6, .int (iI v6_52)), (5, .int (iI v5_52)), (3, .int (iI z_17)), (0, .ref (ad 0)), (1, .int (iI p1)), (2, .int (iI p2))]) hx hb dX13_bringsTo_114 hl (by decide) rfl (fun ls hl => ?_)
                    refine lv_iload hx hb dX13_bringsTo_116 (lv_at hl 5 rfl) ?_
                    refine lv_iload hx hb dX13_bringsTo_118 (lv_at hl 1 rfl) ?_
                    refine xr_add hx hb dX13_bringsTo_120 ?_
                    refine xr_kept (fun z_240 h_241 h_242 => ?_)
                    refine lv_istore (lv' := [(5, .int (iI z_240)), (4, .int (iI z_237)), (9, .int (iI s0_107)), (8, .int (iI (a_52 67 v7_52))), (7, .int (iI v7_52)), (6, .int (iI v6_52)), (3, .int (iI z_17)), (0, .ref (ad 0)), (1, .int (iI p1)), (2, .int (iI p2))]) hx hb dX13_bringsTo_121 hl (by decide) rfl (fun ls hl => ?_)
                    refine lv_iload hx hb dX13_bringsTo_123 (lv_at hl 5 rfl) ?_
                    refine lv_iload hx hb dX13_bringsTo_125 (lv_at hl 2 rfl) ?_
                    refine xr_add hx hb dX13_bringsTo_127 ?_
                    refine xr_kept (fun z_243 h_244 h_245 => ?_)
                    refine lv_istore (lv' := [(6, .int (iI z_243)), (5, .int (iI z_240)), (4, .int (iI z_237)), (9, .int (iI s0_107)), (8, .int (iI (a_52 67 v7_52))), (7, .int (iI v7_52)), (3, .int (iI z_17)), (0, .ref (ad 0)), (1, .int (iI p1)), (2, .int (iI p2))]) hx hb dX13_bringsTo_128 hl (by decide) rfl (fun ls hl => ?_)
                    refine lv_goto (tgt := 338) hx hb dX13_bringsTo_130 (by decide) ?_
                    exact J338 z_243 z_240 z_237 a_52 H locs ls (by omega) (by omega) (by omega) (by omega) hI haA hP hD hS (lv_sub hl [4, 5, 0, 1, 2, 6, 7, 8, 9] rfl)
                  refine xr_icmp_ne (tgt := 105) hx hb dX13_bringsTo_98 (by decide) (by omega) (by omega) (fun h_246 => ?_) (fun h_246 => ?_)
                  · refine lv_bipush (v := iI 10) hx hb dX13_bringsTo_105 rfl ?_
                    exact J107 10 H locs ls (by omega) hP hD hS hl
                  · refine lv_iconst (v := iI 1) hx hb dX13_bringsTo_101 rfl ?_
                    refine lv_goto (tgt := 107) hx hb dX13_bringsTo_102 (by decide) ?_
                    exact J107 1 H locs ls (by omega) hP hD hS hl
              · refine lv_goto (tgt := 338) hx hb dX13_bringsTo_77 (by decide) ?_
                exact J338 v6_52 v5_52 v4_52 a_52 H locs ls (by omega) (by omega) (by omega) (by omega) hI haA hP hD hS hl
        exact L52 (((z_17 - 0 : Int)).toNat + 1) 0 0 0 0 a_20 H locs ls (by omega) (by omega) (by omega) (by omega) (by omega) (by omega) hI haA (by omega) hP hD hS hl
      · refine lv_iconst (v := iI (-1)) hx hb dX13_bringsTo_27 rfl ?_
        rw [← hQ]
        exact W.iret (v := iI (-1)) hx hb hr (fun t ht hW => ⟨⟨iI (-1), (g, a), rfl, ⟨(-1), rfl, hI, hfA, haA, by omega⟩, by rw [ht]; exact hP, va_K.moved hW.alike hK, hD⟩, hS.F ht⟩) hS.2.2 dX13_bringsTo_28
