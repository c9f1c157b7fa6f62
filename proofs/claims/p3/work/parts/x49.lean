set_option maxHeartbeats 2000000 in
set_option maxRecDepth 100000 in
theorem sX12_force (l : Launch) (dC : Nat → ClassId) (dI : Nat → Nat → Nat) (sz : Nat) (L : List Nat) (cid : Nat → ClassId) (K : Int → Nat) (N : Int → Int) (tW : Nat) (sK sV : Nat → Nat) (v : Int → Int → Int) (p0 : Int) (p1 : Int) (p2 : Int) (hI : xI L K N v) (q0 : ok L K p0 12) (q1 : rg p1) (q2 : rg p2) : Met l yX12_force (jk yX12_force cX12_force 5 (some .int)) ({ frames := 6, cells := 0, slots := 0, locals := 159 }) (va_Pc [.ref p0.toNat, .int (iI p1), .int (iI p2)] (xP (dC, dI) (xG L cid K N v) (xT cid) tW sK sV sz)) (va_Qi (fun (r : Int32) (u : (Int → Int → Int)) => ∃ z : Int, r = iI z ∧ (xI L K N u) ∧ (fr K [(0, 5), (0, 6), (6, 1), (6, 2), (6, 3), (6, 4), (6, 5), (8, 5), (30, (-1)), (31, (-1)), (32, (-1)), (34, (-1))] u v) ∧ (rg z)) (fun u t => va_P (dC, dI) vwCl (xG L cid K N u) t.heap ∧ va_K (dC, dI) vwCl (xT cid) t ∧ va_D (va_A (xG L cid K N v) sz) (xG L cid K N u)) (va_A (xG L cid K N v) sz)) 0 0 (va_A (xG L cid K N v) sz) := by
  refine Met.ofW (cc := cX12_force) (maxL := 5) (ret := (some .int)) (by decide) rfl ?_
  intro p e s m args below meth c s₁ B hml hv
  obtain ⟨rfl, ⟨hsz, hP, hK, hD0⟩, hX⟩ := hv
  have hx := B.exec
  have hb := B.bytes
  have hr := B.returns
  have hts := atoms_spec (ws := (jk yX12_force cX12_force 5 (some .int))) B.pre
  have hj : ∀ w ∈ jw, w.before ([.ref p0.toNat, .int (iI p1), .int (iI p2)] : List Value).toArray s = true := fun w h => hts w (jm h)
  have hown : s.vm.findClass RX12 = some m.cls := findClass_of_methodNamed B.named
  subst hsz
  have hD := hD0.self (sz := s.heap.size)
  generalize hAe : (va_A (xG L cid K N v) s.heap.size) = A at hD hX ⊢
  have hA : ∀ q : Nat, s.heap.size ≤ q → A q := fun q h => by rw [← hAe]; exact Or.inr h
  have hS : va_S A s.heap s.heap [] := va_S.rf
  have hXa := hX
  have hP : va_P (dC, dI) vwCl (xG L cid K N v) s.heap := hP
  have hl := lv_entry ([.ref p0.toNat, .int (iI p1), .int (iI p2)]) (n := 5) (Nat.le_of_ble_eq_true rfl)
  rw [lg_entry_eq]
  generalize (lg_sl ([.ref p0.toNat, .int (iI p1), .int (iI p2)]) ++ List.replicate (5 - (lg_sl ([.ref p0.toNat, .int (iI p1), .int (iI p2)])).length) Slot.unset).toArray = ls at hl ⊢
  have hl : lv_has ls 5 [(0, .ref p0.toNat), (1, .int (iI p1)), (2, .int (iI p2))] := hl
  generalize hQ : MQ below (va_Qi (fun (r : Int32) (u : (Int → Int → Int)) => ∃ z : Int, r = iI z ∧ (xI L K N u) ∧ (fr K [(0, 5), (0, 6), (6, 1), (6, 2), (6, 3), (6, 4), (6, 5), (8, 5), (30, (-1)), (31, (-1)), (32, (-1)), (34, (-1))] u v) ∧ (rg z)) (fun u t => va_P (dC, dI) vwCl (xG L cid K N u) t.heap ∧ va_K (dC, dI) vwCl (xT cid) t ∧ va_D A (xG L cid K N u)) A) ([.ref p0.toNat, .int (iI p1), .int (iI p2)] : List Value).toArray s 0 0 A = Q
  suffices ST : ∀ (H : Heap) (locs : List Loc), va_P (dC, dI) vwCl (xG L cid K N v) H → va_S A s.heap H locs → W p l e ({ frames := 6, cells := 0, slots := 0, locals := 159 }) s m ([.ref p0.toNat, .int (iI p1), .int (iI p2)] : List Value).toArray below meth c H locs 0 0 Q (F0 m 0 ls []) from ST _ _ hP hS
  clear hP hS
  intro H locs hP hS
  refine lv_iload_n hx hb dX12_force_0 rfl (lv_at hl 2 rfl) ?_
  refine lv_iconst (v := iI (-1)) hx hb dX12_force_1 rfl ?_
  have J10 : ∀ (s0_10 : Int) (H : Heap) (locs : List Loc) (ls : Array Slot), (0 ≤ s0_10 ∧ s0_10 ≤ 1) → va_P (dC, dI) vwCl (xG L cid K N v) H → va_D A (xG L cid K N v) → va_S A s.heap H locs → lv_has ls 5 [(0, .ref p0.toNat), (1, .int (iI p1)), (2, .int (iI p2))] → W p l e ({ frames := 6, cells := 0, slots := 0, locals := 159 }) s m ([.ref p0.toNat, .int (iI p1), .int (iI p2)] : List Value).toArray below meth c H locs 0 0 Q (F0 m 10 ls [.int (iI s0_10)]) := by
    intro s0_10 H locs ls h_1 hP hD hS hl
    refine lv_istore_n (i := 3) (lv' := [(3, .int (iI s0_10)), (0, .ref p0.toNat), (1, .int (iI p1)), (2, .int (iI p2))]) hx hb dX12_force_10 rfl hl (by decide) rfl (fun ls hl => ?_)
    refine lv_iload_n hx hb dX12_force_11 rfl (lv_at hl 0 rfl) ?_
    have J33 : ∀ (H : Heap) (locs : List Loc) (ls : Array Slot), va_P (dC, dI) vwCl (xG L cid K N v) H → va_D A (xG L cid K N v) → va_S A s.heap H locs → lv_has ls 5 [(3, .int (iI s0_10)), (0, .ref p0.toNat), (1, .int (iI p1)), (2, .int (iI p2))] → W p l e ({ frames := 6, cells := 0, slots := 0, locals := 159 }) s m ([.ref p0.toNat, .int (iI p1), .int (iI p2)] : List Value).toArray below meth c H locs 0 0 Q (F0 m 33 ls []) := by
      intro H locs ls hP hD hS hl
      refine lv_aload_n hx hb dX12_force_33 rfl (lv_at hl 1 rfl) ?_
      have h_2 : ok L K (v p0 3) 8 := xf_12_3 hI q0
      refine gx_RX12_19 (y := v p0 3) hx hb hj hown hK hP q0 ((xf_12_3 hI q0).1) rfl dX12_force_34 ?_
      refine lv_iload_n hx hb dX12_force_37 rfl (lv_at hl 2 rfl) ?_
      refine lv_iload_n hx hb dX12_force_38 rfl (lv_at hl 3 rfl) ?_
      refine lv_aload_n hx hb dX12_force_39 rfl (lv_at hl 1 rfl) ?_
      have h_3 : 0 ≤ v p0 0 ∧ v p0 0 ≤ 2000 := xf_12_0 hI q0
      refine gx_RX12_133 (y := v p0 0) hx hb hj hown hK hP q0 rfl dX12_force_40 ?_
      refine jcg_i (va_runV (As := [.int (iI p1), .int (iI p2), .int (iI (v p0 0))]) (rest := []) ⟨hx, hb, hml, hown, hts⟩ (sX8_put l dC dI _ L cid K N tW sK sV v (v p0 3) p1 p2 (v p0 0) hI h_2 (by omega) (by omega) (by omega)) (cwV 3 hts (jgoodV m_1011 m_1012 m_1013 m_928 m_1014) rfl rfl rfl (by decide +kernel) ⟨(Nat.le_of_ble_eq_true rfl), (Nat.le_of_ble_eq_true rfl)⟩) ⟨xP_blind, xrecv hK hP h_2 rfl rfl, fun U hU hW => ⟨rfl, xP_of hU hW hP hK hD hX hS (fun _ h => h) hA⟩⟩ rfl rfl hl.1 rfl (lv_room (Nat.le_of_ble_eq_true rfl)) dX12_force_43 ⟨(Nat.le_of_ble_eq_true rfl), (Nat.le_of_ble_eq_true rfl)⟩) hD hS hA (fun r_4 v_8 H locs w_5 hP hK hD hS => ?_)
      obtain ⟨z_6, rfl, I_10, f_9, h_7⟩ := w_5
      have hP : va_P (dC, dI) vwCl (xG L cid K N v_8) H := hP
      have hD : va_D A (xG L cid K N v_8) := hD
      refine lv_istore (i := 4) (lv' := [(4, .int (iI z_6)), (3, .int (iI s0_10)), (0, .ref p0.toNat), (1, .int (iI p1)), (2, .int (iI p2))]) hx hb dX12_force_46 hl (by decide) rfl (fun ls hl => ?_)
      refine lv_iload hx hb dX12_force_48 (lv_at hl 0 rfl) ?_
      refine lv_iconst (v := iI (-1)) hx hb dX12_force_50 rfl ?_
      refine xr_icmp_eq (tgt := 62) hx hb dX12_force_51 (by decide) (by omega) (by omega) (fun h_11 => ?_) (fun h_11 => ?_)
      · refine lv_iload hx hb dX12_force_62 (lv_at hl 0 rfl) ?_
        rw [← hQ]
        exact W.iret (v := iI z_6) hx hb hr (fun t ht hW => ⟨⟨iI z_6, v_8, rfl, ⟨z_6, rfl, I_10, (fr_tr f_9 rfl fr_rf), by omega⟩, by rw [ht]; exact hP, va_K.moved hW.alike hK, hD⟩, hS.F ht⟩) hS.2.2 dX12_force_64
      · refine lv_iload_n hx hb dX12_force_54 rfl (lv_at hl 1 rfl) ?_
        refine xr_if_eq (tgt := 62) hx hb dX12_force_55 (by decide) (by omega) (fun h_12 => ?_) (fun h_12 => ?_)
        · refine lv_iload hx hb dX12_force_62 (lv_at hl 0 rfl) ?_
          rw [← hQ]
          exact W.iret (v := iI z_6) hx hb hr (fun t ht hW => ⟨⟨iI z_6, v_8, rfl, ⟨z_6, rfl, I_10, (fr_tr f_9 rfl fr_rf), by omega⟩, by rw [ht]; exact hP, va_K.moved hW.alike hK, hD⟩, hS.F ht⟩) hS.2.2 dX12_force_64
        · refine lv_aload_n hx hb dX12_force_58 rfl (lv_at hl 2 rfl) ?_
          refine jcg_v (va_runV (As := []) (rest := []) ⟨hx, hb, hml, hown, hts⟩ (sX12_sortIntoVolumes l dC dI _ L cid K N tW sK sV v_8 p0 I_10 q0) (cwV 0 hts (jgoodV m_1015 m_1016 m_1017 m_873 m_1018) rfl rfl rfl (by decide +kernel) ⟨(Nat.le_of_ble_eq_true rfl), (Nat.le_of_ble_eq_true rfl)⟩) ⟨xP_blind, xrecv hK hP q0 rfl rfl, fun U hU hW => ⟨rfl, xP_of hU hW hP hK hD hX hS (fun _ h => h) hA⟩⟩ rfl rfl hl.1 rfl (lv_room (Nat.le_of_ble_eq_true rfl)) dX12_force_59 ⟨(Nat.le_of_ble_eq_true rfl), (Nat.le_of_ble_eq_true rfl)⟩) hD hS hA (fun v_16 H locs w_14 hP hK hD hS => ?_)
          obtain ⟨I_18, f_17⟩ := w_14
          have hP : va_P (dC, dI) vwCl (xG L cid K N v_16) H := hP
          have hD : va_D A (xG L cid K N v_16) := hD
          refine lv_iload hx hb dX12_force_62 (lv_at hl 0 rfl) ?_
          rw [← hQ]
          exact W.iret (v := iI z_6) hx hb hr (fun t ht hW => ⟨⟨iI z_6, v_16, rfl, ⟨z_6, rfl, I_18, (fr_tr f_17 rfl (fr_tr f_9 rfl fr_rf)), by omega⟩, by rw [ht]; exact hP, va_K.moved hW.alike hK, hD⟩, hS.F ht⟩) hS.2.2 dX12_force_64
    refine xr_if_ne (tgt := 33) hx hb dX12_force_12 (by decide) (by omega) (fun h_19 => ?_) (fun h_19 => ?_)
    · exact J33 H locs ls hP hD hS hl
    · refine lv_aload_n hx hb dX12_force_15 rfl (lv_at hl 1 rfl) ?_
      refine lv_iload_n hx hb dX12_force_16 rfl (lv_at hl 3 rfl) ?_
      refine jc_i (va_runV (As := [.int (iI p2)]) (rest := []) ⟨hx, hb, hml, hown, hts⟩ (sX12_isVolume l dC dI _ p0 p2 (by omega)) (cwV 1 hts (jgoodV m_985 m_986 m_987 m_873 m_988) rfl rfl rfl (by decide +kernel) ⟨(Nat.le_of_ble_eq_true rfl), (Nat.le_of_ble_eq_true rfl)⟩) ⟨jw_blind0, xrecv hK hP q0 rfl rfl, fun U hU hW => ⟨rfl, congrArg Array.size hU⟩⟩ rfl rfl hl.1 rfl (lv_room (Nat.le_of_ble_eq_true rfl)) dX12_force_17 ⟨(Nat.le_of_ble_eq_true rfl), (Nat.le_of_ble_eq_true rfl)⟩) hP hS hA (fun r_20 H locs w_21 hP hS => ?_)
      obtain ⟨z_22, rfl, h_23, h_24⟩ := w_21
      refine xr_if_eq (tgt := 31) hx hb dX12_force_20 (by decide) (by omega) (fun h_25 => ?_) (fun h_25 => ?_)
      · refine lv_iconst (v := iI (-1)) hx hb dX12_force_31 rfl ?_
        rw [← hQ]
        exact W.iret (v := iI (-1)) hx hb hr (fun t ht hW => ⟨⟨iI (-1), v, rfl, ⟨(-1), rfl, hI, fr_rf, by omega⟩, by rw [ht]; exact hP, va_K.moved hW.alike hK, hD⟩, hS.F ht⟩) hS.2.2 dX12_force_32
      · refine lv_aload_n hx hb dX12_force_23 rfl (lv_at hl 1 rfl) ?_
        refine lv_iload_n hx hb dX12_force_24 rfl (lv_at hl 3 rfl) ?_
        refine jc_i (va_runV (As := [.int (iI p2)]) (rest := []) ⟨hx, hb, hml, hown, hts⟩ (sX12_isSet l dC dI _ L cid K N tW sK sV v p0 p2 hI q0 (by omega)) (cwV 1 hts (jgoodV m_1019 m_1020 m_1021 m_873 m_1022) rfl rfl rfl (by decide +kernel) ⟨(Nat.le_of_ble_eq_true rfl), (Nat.le_of_ble_eq_true rfl)⟩) ⟨xP_blind, xrecv hK hP q0 rfl rfl, fun U hU hW => ⟨rfl, xP_of hU hW hP hK hD hX hS (fun _ h => h) hA⟩⟩ rfl rfl hl.1 rfl (lv_room (Nat.le_of_ble_eq_true rfl)) dX12_force_25 ⟨(Nat.le_of_ble_eq_true rfl), (Nat.le_of_ble_eq_true rfl)⟩) hP hS hA (fun r_26 H locs w_27 hP hS => ?_)
        obtain ⟨z_28, rfl, h_29⟩ := w_27
        refine xr_if_eq (tgt := 33) hx hb dX12_force_28 (by decide) (by omega) (fun h_30 => ?_) (fun h_30 => ?_)
        · exact J33 H locs ls hP hD hS hl
        · refine lv_iconst (v := iI (-1)) hx hb dX12_force_31 rfl ?_
          rw [← hQ]
          exact W.iret (v := iI (-1)) hx hb hr (fun t ht hW => ⟨⟨iI (-1), v, rfl, ⟨(-1), rfl, hI, fr_rf, by omega⟩, by rw [ht]; exact hP, va_K.moved hW.alike hK, hD⟩, hS.F ht⟩) hS.2.2 dX12_force_32
  refine xr_icmp_ne (tgt := 9) hx hb dX12_force_2 (by decide) (by omega) (by omega) (fun h_31 => ?_) (fun h_31 => ?_)
  · refine lv_iconst (v := iI 0) hx hb dX12_force_9 rfl ?_
    exact J10 0 H locs ls (by omega) hP hD hS hl
  · refine lv_iconst (v := iI 1) hx hb dX12_force_5 rfl ?_
    refine lv_goto (tgt := 10) hx hb dX12_force_6 (by decide) ?_
    exact J10 1 H locs ls (by omega) hP hD hS hl
set_option maxHeartbeats 2000000 in
set_option maxRecDepth 100000 in
theorem sX12_rule (l : Launch) (dC : Nat → ClassId) (dI : Nat → Nat → Nat) (sz : Nat) (L : List Nat) (cid : Nat → ClassId) (K : Int → Nat) (N : Int → Int) (tW : Nat) (sK sV : Nat → Nat) (v : Int → Int → Int) (p0 : Int) (p1 : Int) (p2 : Int) (p3 : Int) (hI : xI L K N v) (q0 : ok L K p0 12) (q1 : rg p1) (q2 : rg p2) (q3 : rg p3) : Met l yX12_rule (jk yX12_rule cX12_rule 5 (some .int)) ({ frames := 2, cells := 0, slots := 0, locals := 50 }) (va_Pc [.ref p0.toNat, .int (iI p1), .int (iI p2), .int (iI p3)] (xP (dC, dI) (xG L cid K N v) (xT cid) tW sK sV sz)) (va_Qi (fun (r : Int32) (_ : Unit) => ∃ z : Int, r = iI z ∧ (rg z)) (fun _ _ => True) (va_A [] sz)) 0 0 (va_A [] sz) := by
  refine Met.ofW (cc := cX12_rule) (maxL := 5) (ret := (some .int)) (by decide) rfl ?_
  intro p e s m args below meth c s₁ B hml hv
  obtain ⟨rfl, ⟨hsz, hP, hK, hD0⟩, hX⟩ := hv
  have hx := B.exec
  have hb := B.bytes
  have hr := B.returns
  have hts := atoms_spec (ws := (jk yX12_rule cX12_rule 5 (some .int))) B.pre
  have hj : ∀ w ∈ jw, w.before ([.ref p0.toNat, .int (iI p1), .int (iI p2), .int (iI p3)] : List Value).toArray s = true := fun w h => hts w (jm h)
  have hown : s.vm.findClass RX12 = some m.cls := findClass_of_methodNamed B.named
  subst hsz
  have hDw := hD0.self (sz := s.heap.size)
  have hAA : ∀ q : Nat, s.heap.size ≤ q → va_A (xG L cid K N v) s.heap.size q := fun q h => Or.inr h
  have hAw : ∀ q, va_A [] s.heap.size q → va_A (xG L cid K N v) s.heap.size q := ja_nil va_S.rf hAA
  generalize hAe : (va_A [] s.heap.size) = A at hAw ⊢
  have hA : ∀ q : Nat, s.heap.size ≤ q → A q := fun q h => by rw [← hAe]; exact Or.inr h
  have hS : va_S A s.heap s.heap [] := va_S.rf
  have hXa := hX.nar hAw
  have hP : va_P (dC, dI) vwCl (xG L cid K N v) s.heap := hP
  have hl := lv_entry ([.ref p0.toNat, .int (iI p1), .int (iI p2), .int (iI p3)]) (n := 5) (Nat.le_of_ble_eq_true rfl)
  rw [lg_entry_eq]
  generalize (lg_sl ([.ref p0.toNat, .int (iI p1), .int (iI p2), .int (iI p3)]) ++ List.replicate (5 - (lg_sl ([.ref p0.toNat, .int (iI p1), .int (iI p2), .int (iI p3)])).length) Slot.unset).toArray = ls at hl ⊢
  have hl : lv_has ls 5 [(0, .ref p0.toNat), (1, .int (iI p1)), (2, .int (iI p2)), (3, .int (iI p3))] := hl
  generalize hQ : MQ below (va_Qi (fun (r : Int32) (_ : Unit) => ∃ z : Int, r = iI z ∧ (rg z)) (fun _ _ => True) A) ([.ref p0.toNat, .int (iI p1), .int (iI p2), .int (iI p3)] : List Value).toArray s 0 0 A = Q
  suffices ST : ∀ (H : Heap) (locs : List Loc), va_P (dC, dI) vwCl (xG L cid K N v) H → va_S A s.heap H locs → W p l e ({ frames := 2, cells := 0, slots := 0, locals := 50 }) s m ([.ref p0.toNat, .int (iI p1), .int (iI p2), .int (iI p3)] : List Value).toArray below meth c H locs 0 0 Q (F0 m 0 ls []) from ST _ _ hP hS
  clear hP hS
  intro H locs hP hS
  refine lv_iload_n hx hb dX12_rule_0 rfl (lv_at hl 1 rfl) ?_
  refine jc_i (va_runS (As := [.int (iI p1)]) (rest := []) ⟨hx, hb, hml, hown, hts⟩ (sX9_sortOf l dC dI _ p1 (by omega)) (va_cwS 1 hts (jgoodS m_1023 m_1024 m_933 m_1025) rfl rfl rfl (by decide +kernel) ⟨(Nat.le_of_ble_eq_true rfl), (Nat.le_of_ble_eq_true rfl)⟩) ⟨jw_blind0, fun U hU hW => ⟨rfl, congrArg Array.size hU⟩⟩ rfl rfl hl.1 rfl (lv_room (Nat.le_of_ble_eq_true rfl)) dX12_rule_1 ⟨(Nat.le_of_ble_eq_true rfl), (Nat.le_of_ble_eq_true rfl)⟩) hP hS hA (fun r_1 H locs w_2 hP hS => ?_)
  obtain ⟨z_3, rfl, h_4⟩ := w_2
  refine lv_istore (i := 4) (lv' := [(4, .int (iI z_3)), (0, .ref p0.toNat), (1, .int (iI p1)), (2, .int (iI p2)), (3, .int (iI p3))]) hx hb dX12_rule_4 hl (by decide) rfl (fun ls hl => ?_)
  refine lv_iload hx hb dX12_rule_6 (lv_at hl 0 rfl) ?_
  refine lv_iconst (v := iI (-1)) hx hb dX12_rule_8 rfl ?_
  refine xr_icmp_eq (tgt := 32) hx hb dX12_rule_9 (by decide) (by omega) (by omega) (fun h_5 => ?_) (fun h_5 => ?_)
  · refine lv_iconst (v := iI (-1)) hx hb dX12_rule_32 rfl ?_
    rw [← hQ]
    exact W.iret (v := iI (-1)) hx hb hr (fun t ht hW => ⟨⟨iI (-1), (), rfl, ⟨(-1), rfl, by omega⟩, trivial⟩, hS.F ht⟩) hS.2.2 dX12_rule_33
  · refine lv_aload_n hx hb dX12_rule_12 rfl (lv_at hl 1 rfl) ?_
    refine lv_iload_n hx hb dX12_rule_13 rfl (lv_at hl 3 rfl) ?_
    refine jc_i (va_runV (As := [.int (iI p2)]) (rest := []) ⟨hx, hb, hml, hown, hts⟩ (sX12_isVolume l dC dI _ p0 p2 (by omega)) (cwV 1 hts (jgoodV m_985 m_986 m_987 m_873 m_988) rfl rfl rfl (by decide +kernel) ⟨(Nat.le_of_ble_eq_true rfl), (Nat.le_of_ble_eq_true rfl)⟩) ⟨jw_blind0, xrecv hK hP q0 rfl rfl, fun U hU hW => ⟨rfl, congrArg Array.size hU⟩⟩ rfl rfl hl.1 rfl (lv_room (Nat.le_of_ble_eq_true rfl)) dX12_rule_14 ⟨(Nat.le_of_ble_eq_true rfl), (Nat.le_of_ble_eq_true rfl)⟩) hP hS hA (fun r_6 H locs w_7 hP hS => ?_)
    obtain ⟨z_8, rfl, h_9, h_10⟩ := w_7
    refine xr_if_eq (tgt := 32) hx hb dX12_rule_17 (by decide) (by omega) (fun h_11 => ?_) (fun h_11 => ?_)
    · refine lv_iconst (v := iI (-1)) hx hb dX12_rule_32 rfl ?_
      rw [← hQ]
      exact W.iret (v := iI (-1)) hx hb hr (fun t ht hW => ⟨⟨iI (-1), (), rfl, ⟨(-1), rfl, by omega⟩, trivial⟩, hS.F ht⟩) hS.2.2 dX12_rule_33
    · refine lv_iload_n hx hb dX12_rule_20 rfl (lv_at hl 4 rfl) ?_
      refine xr_if_lt (tgt := 32) hx hb dX12_rule_21 (by decide) (by omega) (fun h_12 => ?_) (fun h_12 => ?_)
      · refine lv_iconst (v := iI (-1)) hx hb dX12_rule_32 rfl ?_
        rw [← hQ]
        exact W.iret (v := iI (-1)) hx hb hr (fun t ht hW => ⟨⟨iI (-1), (), rfl, ⟨(-1), rfl, by omega⟩, trivial⟩, hS.F ht⟩) hS.2.2 dX12_rule_33
      · refine lv_iload_n hx hb dX12_rule_24 rfl (lv_at hl 4 rfl) ?_
        refine lv_aload_n hx hb dX12_rule_25 rfl (lv_at hl 1 rfl) ?_
        have h_13 : 0 ≤ v p0 0 ∧ v p0 0 ≤ 2000 := xf_12_0 hI q0
        refine gx_RX12_133 (y := v p0 0) hx hb hj hown hK hP q0 rfl dX12_rule_26 ?_
        refine xr_icmp_le (tgt := 34) hx hb dX12_rule_29 (by decide) (by omega) (by omega) (fun h_14 => ?_) (fun h_14 => ?_)
        · refine lv_aload_n hx hb dX12_rule_34 rfl (lv_at hl 1 rfl) ?_
          have h_15 : ok L K (v p0 3) 8 := xf_12_3 hI q0
          refine gx_RX12_19 (y := v p0 3) hx hb hj hown hK hP q0 ((xf_12_3 hI q0).1) rfl dX12_rule_35 ?_
          refine lv_iload hx hb dX12_rule_38 (lv_at hl 0 rfl) ?_
          refine lv_iload_n hx hb dX12_rule_40 rfl (lv_at hl 3 rfl) ?_
          refine lv_iload_n hx hb dX12_rule_41 rfl (lv_at hl 4 rfl) ?_
          refine jc_i (va_runV (As := [.int (iI z_3), .int (iI p2), .int (iI p3)]) (rest := []) ⟨hx, hb, hml, hown, hts⟩ (sX8_inForce l dC dI _ L cid K N tW sK sV v (v p0 3) z_3 p2 p3 hI h_15 (by omega) (by omega) (by omega)) (cwV 3 hts (jgoodV m_1026 m_948 m_949 m_928 m_950) rfl rfl rfl (by decide +kernel) ⟨(Nat.le_of_ble_eq_true rfl), (Nat.le_of_ble_eq_true rfl)⟩) ⟨xP_blind, xrecv hK hP h_15 rfl rfl, fun U hU hW => ⟨rfl, xP_of hU hW hP hK hDw hX hS hAw hAA⟩⟩ rfl rfl hl.1 rfl (lv_room (Nat.le_of_ble_eq_true rfl)) dX12_rule_42 ⟨(Nat.le_of_ble_eq_true rfl), (Nat.le_of_ble_eq_true rfl)⟩) hP hS hA (fun r_16 H locs w_17 hP hS => ?_)
          obtain ⟨z_18, rfl, h_19⟩ := w_17
          rw [← hQ]
          exact W.iret (v := iI z_18) hx hb hr (fun t ht hW => ⟨⟨iI z_18, (), rfl, ⟨z_18, rfl, by omega⟩, trivial⟩, hS.F ht⟩) hS.2.2 dX12_rule_45
        · refine lv_iconst (v := iI (-1)) hx hb dX12_rule_32 rfl ?_
          rw [← hQ]
          exact W.iret (v := iI (-1)) hx hb hr (fun t ht hW => ⟨⟨iI (-1), (), rfl, ⟨(-1), rfl, by omega⟩, trivial⟩, hS.F ht⟩) hS.2.2 dX12_rule_33
set_option maxHeartbeats 2000000 in
set_option maxRecDepth 100000 in
theorem sX12_bound (l : Launch) (dC : Nat → ClassId) (dI : Nat → Nat → Nat) (sz : Nat) (L : List Nat) (cid : Nat → ClassId) (K : Int → Nat) (N : Int → Int) (tW : Nat) (sK sV : Nat → Nat) (v : Int → Int → Int) (p0 : Int) (p1 : Int) (p2 : Int) (hI : xI L K N v) (q0 : ok L K p0 12) (q1 : rg p1) (q2 : rg p2) : Met l yX12_bound (jk yX12_bound cX12_bound 4 (some .boolean)) ({ frames := 6, cells := 0, slots := 0, locals := 159 }) (va_Pc [.ref p0.toNat, .int (iI p1), .int (iI p2)] (xP (dC, dI) (xG L cid K N v) (xT cid) tW sK sV sz)) (va_Qi (fun (r : Int32) (u : (Int → Int → Int)) => ∃ z : Int, r = iI z ∧ (xI L K N u) ∧ (fr K [(0, 5), (0, 6), (6, 1), (6, 2), (6, 3), (6, 4), (6, 5), (11, 0), (34, (-1))] u v) ∧ (0 ≤ z ∧ z ≤ 1)) (fun u t => va_P (dC, dI) vwCl (xG L cid K N u) t.heap ∧ va_K (dC, dI) vwCl (xT cid) t ∧ va_D (va_A (xG L cid K N v) sz) (xG L cid K N u)) (va_A (xG L cid K N v) sz)) 0 0 (va_A (xG L cid K N v) sz) := by
  refine Met.ofW (cc := cX12_bound) (maxL := 4) (ret := (some .boolean)) (by decide) rfl ?_
  intro p e s m args below meth c s₁ B hml hv
  obtain ⟨rfl, ⟨hsz, hP, hK, hD0⟩, hX⟩ := hv
  have hx := B.exec
  have hb := B.bytes
  have hr := B.returns
  have hts := atoms_spec (ws := (jk yX12_bound cX12_bound 4 (some .boolean))) B.pre
  have hj : ∀ w ∈ jw, w.before ([.ref p0.toNat, .int (iI p1), .int (iI p2)] : List Value).toArray s = true := fun w h => hts w (jm h)
  have hown : s.vm.findClass RX12 = some m.cls := findClass_of_methodNamed B.named
  subst hsz
  have hD := hD0.self (sz := s.heap.size)
  generalize hAe : (va_A (xG L cid K N v) s.heap.size) = A at hD hX ⊢
  have hA : ∀ q : Nat, s.heap.size ≤ q → A q := fun q h => by rw [← hAe]; exact Or.inr h
  have hS : va_S A s.heap s.heap [] := va_S.rf
  have hXa := hX
  have hP : va_P (dC, dI) vwCl (xG L cid K N v) s.heap := hP
  have hl := lv_entry ([.ref p0.toNat, .int (iI p1), .int (iI p2)]) (n := 4) (Nat.le_of_ble_eq_true rfl)
  rw [lg_entry_eq]
  generalize (lg_sl ([.ref p0.toNat, .int (iI p1), .int (iI p2)]) ++ List.replicate (4 - (lg_sl ([.ref p0.toNat, .int (iI p1), .int (iI p2)])).length) Slot.unset).toArray = ls at hl ⊢
  have hl : lv_has ls 4 [(0, .ref p0.toNat), (1, .int (iI p1)), (2, .int (iI p2))] := hl
  generalize hQ : MQ below (va_Qi (fun (r : Int32) (u : (Int → Int → Int)) => ∃ z : Int, r = iI z ∧ (xI L K N u) ∧ (fr K [(0, 5), (0, 6), (6, 1), (6, 2), (6, 3), (6, 4), (6, 5), (11, 0), (34, (-1))] u v) ∧ (0 ≤ z ∧ z ≤ 1)) (fun u t => va_P (dC, dI) vwCl (xG L cid K N u) t.heap ∧ va_K (dC, dI) vwCl (xT cid) t ∧ va_D A (xG L cid K N u)) A) ([.ref p0.toNat, .int (iI p1), .int (iI p2)] : List Value).toArray s 0 0 A = Q
  suffices ST : ∀ (H : Heap) (locs : List Loc), va_P (dC, dI) vwCl (xG L cid K N v) H → va_S A s.heap H locs → W p l e ({ frames := 6, cells := 0, slots := 0, locals := 159 }) s m ([.ref p0.toNat, .int (iI p1), .int (iI p2)] : List Value).toArray below meth c H locs 0 0 Q (F0 m 0 ls []) from ST _ _ hP hS
  clear hP hS
  intro H locs hP hS
  refine lv_iload_n hx hb dX12_bound_0 rfl (lv_at hl 1 rfl) ?_
  refine xr_if_lt (tgt := 26) hx hb dX12_bound_1 (by decide) (by omega) (fun h_1 => ?_) (fun h_1 => ?_)
  · refine lv_iconst (v := iI 0) hx hb dX12_bound_26 rfl ?_
    rw [← hQ]
    exact W.zret (v := iI 0) (ty := .boolean) hx hb hr (nb_bool (by omega) (by omega)) (fun t ht hW => ⟨⟨iI 0, v, rfl, ⟨0, rfl, hI, fr_rf, by omega⟩, by rw [ht]; exact hP, va_K.moved hW.alike hK, hD⟩, hS.F ht⟩) hS.2.2 dX12_bound_27
  · refine lv_iload_n hx hb dX12_bound_4 rfl (lv_at hl 1 rfl) ?_
    refine lv_iconst (v := iI 5) hx hb dX12_bound_5 rfl ?_
    refine xr_icmp_ge (tgt := 26) hx hb dX12_bound_6 (by decide) (by omega) (by omega) (fun h_2 => ?_) (fun h_2 => ?_)
    · refine lv_iconst (v := iI 0) hx hb dX12_bound_26 rfl ?_
      rw [← hQ]
      exact W.zret (v := iI 0) (ty := .boolean) hx hb hr (nb_bool (by omega) (by omega)) (fun t ht hW => ⟨⟨iI 0, v, rfl, ⟨0, rfl, hI, fr_rf, by omega⟩, by rw [ht]; exact hP, va_K.moved hW.alike hK, hD⟩, hS.F ht⟩) hS.2.2 dX12_bound_27
    · refine lv_iload_n hx hb dX12_bound_9 rfl (lv_at hl 2 rfl) ?_
      refine xr_if_lt (tgt := 26) hx hb dX12_bound_10 (by decide) (by omega) (fun h_3 => ?_) (fun h_3 => ?_)
      · refine lv_iconst (v := iI 0) hx hb dX12_bound_26 rfl ?_
        rw [← hQ]
        exact W.zret (v := iI 0) (ty := .boolean) hx hb hr (nb_bool (by omega) (by omega)) (fun t ht hW => ⟨⟨iI 0, v, rfl, ⟨0, rfl, hI, fr_rf, by omega⟩, by rw [ht]; exact hP, va_K.moved hW.alike hK, hD⟩, hS.F ht⟩) hS.2.2 dX12_bound_27
      · refine lv_iload_n hx hb dX12_bound_13 rfl (lv_at hl 2 rfl) ?_
        refine lv_bipush (v := iI 26) hx hb dX12_bound_14 rfl ?_
        refine xr_icmp_ge (tgt := 26) hx hb dX12_bound_16 (by decide) (by omega) (by omega) (fun h_4 => ?_) (fun h_4 => ?_)
        · refine lv_iconst (v := iI 0) hx hb dX12_bound_26 rfl ?_
          rw [← hQ]
          exact W.zret (v := iI 0) (ty := .boolean) hx hb hr (nb_bool (by omega) (by omega)) (fun t ht hW => ⟨⟨iI 0, v, rfl, ⟨0, rfl, hI, fr_rf, by omega⟩, by rw [ht]; exact hP, va_K.moved hW.alike hK, hD⟩, hS.F ht⟩) hS.2.2 dX12_bound_27
        · refine lv_aload_n hx hb dX12_bound_19 rfl (lv_at hl 0 rfl) ?_
          have h_5 : (-2147483648) ≤ v p0 1 ∧ v p0 1 ≤ 2147483647 := xf_12_1 hI q0
          refine gx_RX12_158 (y := v p0 1) hx hb hj hown hK hP q0 rfl dX12_bound_20 ?_
          refine xr_if_eq (tgt := 28) hx hb dX12_bound_23 (by decide) (by omega) (fun h_6 => ?_) (fun h_6 => ?_)
          · refine lv_aload_n hx hb dX12_bound_28 rfl (lv_at hl 0 rfl) ?_
            have h_7 : ok L K (v p0 5) 35 := xf_12_5 hI q0
            have h_8 : N (v p0 5) = 6 := xn_35 hI h_7
            refine gx_RX12_34 (y := v p0 5) hx hb hj hown hK hP q0 ((xf_12_5 hI q0).1) rfl dX12_bound_29 ?_
            refine lv_iload_n hx hb dX12_bound_32 rfl (lv_at hl 1 rfl) ?_
            have h_9 : v (v p0 5) p1 < 0 ∨ ok L K (v (v p0 5) p1) 11 := xe_35 hI h_7 (by omega)
            refine ax_35 (y := v (v p0 5) p1) hx hb hK hP h_7 (by omega) (by omega) (by omega) rfl dX12_bound_33 ?_
            refine xq_astore_n (i := 3) (lv' := [(3, rv (v (v p0 5) p1)), (0, .ref p0.toNat), (1, .int (iI p1)), (2, .int (iI p2))]) hx hb dX12_bound_34 rfl hl (by decide) rfl (fun ls hl => ?_)
            refine xq_aload_n hx hb dX12_bound_35 rfl (lv_at hl 0 rfl) ?_
            refine xq_ifnull (tgt := 61) hx hb dX12_bound_36 (by decide) (fun h_10 => ?_) (fun h_10 => ?_)
            · refine lv_iconst (v := iI 0) hx hb dX12_bound_61 rfl ?_
              rw [← hQ]
              exact W.zret (v := iI 0) (ty := .boolean) hx hb hr (nb_bool (by omega) (by omega)) (fun t ht hW => ⟨⟨iI 0, v, rfl, ⟨0, rfl, hI, fr_rf, by omega⟩, by rw [ht]; exact hP, va_K.moved hW.alike hK, hD⟩, hS.F ht⟩) hS.2.2 dX12_bound_62
            · have h_11 : ok L K (v (v p0 5) p1) 11 := h_9.resolve_left (by omega)
              refine lv_iload_n hx hb dX12_bound_39 rfl (lv_at hl 3 rfl) ?_
              refine lv_aload_n hx hb dX12_bound_40 rfl (lv_at hl 1 rfl) ?_
              refine lv_iload_n hx hb dX12_bound_41 rfl (lv_at hl 2 rfl) ?_
              refine lv_iconst (v := iI 1) hx hb dX12_bound_42 rfl ?_
              refine xr_sub hx hb dX12_bound_43 ?_
              refine jc_i (va_runV (As := [.int (iI (p1 - 1))]) (rest := [.int (iI p2)]) ⟨hx, hb, hml, hown, hts⟩ (sX12_lastLetter l dC dI _ L cid K N tW sK sV v p0 (p1 - 1) hI q0 (by omega)) (cwV 1 hts (jgoodV m_999 m_1000 m_1001 m_873 m_1002) rfl rfl rfl (by decide +kernel) ⟨(Nat.le_of_ble_eq_true rfl), (Nat.le_of_ble_eq_true rfl)⟩) ⟨xP_blind, xrecv hK hP q0 rfl rfl, fun U hU hW => ⟨rfl, xP_of hU hW hP hK hD hX hS (fun _ h => h) hA⟩⟩ rfl rfl hl.1 rfl (lv_room (Nat.le_of_ble_eq_true rfl)) dX12_bound_44 ⟨(Nat.le_of_ble_eq_true rfl), (Nat.le_of_ble_eq_true rfl)⟩) hP hS hA (fun r_12 H locs w_13 hP hS => ?_)
              obtain ⟨z_14, rfl, h_15⟩ := w_13
              refine xr_icmp_lt (tgt := 61) hx hb dX12_bound_47 (by decide) (by omega) (by omega) (fun h_16 => ?_) (fun h_16 => ?_)
              · refine lv_iconst (v := iI 0) hx hb dX12_bound_61 rfl ?_
                rw [← hQ]
                exact W.zret (v := iI 0) (ty := .boolean) hx hb hr (nb_bool (by omega) (by omega)) (fun t ht hW => ⟨⟨iI 0, v, rfl, ⟨0, rfl, hI, fr_rf, by omega⟩, by rw [ht]; exact hP, va_K.moved hW.alike hK, hD⟩, hS.F ht⟩) hS.2.2 dX12_bound_62
              · refine lv_iload_n hx hb dX12_bound_50 rfl (lv_at hl 3 rfl) ?_
                refine lv_aload_n hx hb dX12_bound_51 rfl (lv_at hl 1 rfl) ?_
                refine lv_iload_n hx hb dX12_bound_52 rfl (lv_at hl 2 rfl) ?_
                refine lv_iconst (v := iI 1) hx hb dX12_bound_53 rfl ?_
                refine xr_add hx hb dX12_bound_54 ?_
                refine jc_i (va_runV (As := [.int (iI (p1 + 1))]) (rest := [.int (iI p2)]) ⟨hx, hb, hml, hown, hts⟩ (sX12_lastLetter l dC dI _ L cid K N tW sK sV v p0 (p1 + 1) hI q0 (by omega)) (cwV 1 hts (jgoodV m_999 m_1000 m_1001 m_873 m_1002) rfl rfl rfl (by decide +kernel) ⟨(Nat.le_of_ble_eq_true rfl), (Nat.le_of_ble_eq_true rfl)⟩) ⟨xP_blind, xrecv hK hP q0 rfl rfl, fun U hU hW => ⟨rfl, xP_of hU hW hP hK hD hX hS (fun _ h => h) hA⟩⟩ rfl rfl hl.1 rfl (lv_room (Nat.le_of_ble_eq_true rfl)) dX12_bound_55 ⟨(Nat.le_of_ble_eq_true rfl), (Nat.le_of_ble_eq_true rfl)⟩) hP hS hA (fun r_17 H locs w_18 hP hS => ?_)
                obtain ⟨z_19, rfl, h_20⟩ := w_18
                refine xr_icmp_le (tgt := 63) hx hb dX12_bound_58 (by decide) (by omega) (by omega) (fun h_21 => ?_) (fun h_21 => ?_)
                · refine xq_aload_n hx hb dX12_bound_63 rfl (lv_at hl 0 rfl) ?_
                  refine jt_q (.ref (v (v p0 5) p1).toNat) (rv_ref (h_11).1) ?_
                  refine lv_iload_n hx hb dX12_bound_64 rfl (lv_at hl 3 rfl) ?_
                  refine px_RX12_164 (y := p2) hx hb hj hown hK hP hD hS hI h_11 ⟨by omega, by omega⟩ dX12_bound_65 (fun v_22 H locs f_23 e_24 o_25 I_26 hP hD hS => ?_)
                  refine lv_aload_n hx hb dX12_bound_68 rfl (lv_at hl 1 rfl) ?_
                  refine jcg_v (va_runV (As := []) (rest := []) ⟨hx, hb, hml, hown, hts⟩ (sX12_sortIntoVolumes l dC dI _ L cid K N tW sK sV v_22 p0 I_26 q0) (cwV 0 hts (jgoodV m_1015 m_1016 m_1017 m_873 m_1018) rfl rfl rfl (by decide +kernel) ⟨(Nat.le_of_ble_eq_true rfl), (Nat.le_of_ble_eq_true rfl)⟩) ⟨xP_blind, xrecv hK hP q0 rfl rfl, fun U hU hW => ⟨rfl, xP_of hU hW hP hK hD hX hS (fun _ h => h) hA⟩⟩ rfl rfl hl.1 rfl (lv_room (Nat.le_of_ble_eq_true rfl)) dX12_bound_69 ⟨(Nat.le_of_ble_eq_true rfl), (Nat.le_of_ble_eq_true rfl)⟩) hD hS hA (fun v_30 H locs w_28 hP hK hD hS => ?_)
                  obtain ⟨I_32, f_31⟩ := w_28
                  have hP : va_P (dC, dI) vwCl (xG L cid K N v_30) H := hP
                  have hD : va_D A (xG L cid K N v_30) := hD
                  refine lv_iconst (v := iI 1) hx hb dX12_bound_72 rfl ?_
                  rw [← hQ]
                  exact W.zret (v := iI 1) (ty := .boolean) hx hb hr (nb_bool (by omega) (by omega)) (fun t ht hW => ⟨⟨iI 1, v_30, rfl, ⟨1, rfl, I_32, (fr_tr f_31 rfl (fr_tr f_23 rfl fr_rf)), by omega⟩, by rw [ht]; exact hP, va_K.moved hW.alike hK, hD⟩, hS.F ht⟩) hS.2.2 dX12_bound_73
                · refine lv_iconst (v := iI 0) hx hb dX12_bound_61 rfl ?_
                  rw [← hQ]
                  exact W.zret (v := iI 0) (ty := .boolean) hx hb hr (nb_bool (by omega) (by omega)) (fun t ht hW => ⟨⟨iI 0, v, rfl, ⟨0, rfl, hI, fr_rf, by omega⟩, by rw [ht]; exact hP, va_K.moved hW.alike hK, hD⟩, hS.F ht⟩) hS.2.2 dX12_bound_62
          · refine lv_iconst (v := iI 0) hx hb dX12_bound_26 rfl ?_
            rw [← hQ]
            exact W.zret (v := iI 0) (ty := .boolean) hx hb hr (nb_bool (by omega) (by omega)) (fun t ht hW => ⟨⟨iI 0, v, rfl, ⟨0, rfl, hI, fr_rf, by omega⟩, by rw [ht]; exact hP, va_K.moved hW.alike hK, hD⟩, hS.F ht⟩) hS.2.2 dX12_bound_27
set_option maxHeartbeats 2000000 in
set_option maxRecDepth 100000 in
theorem sX12_setVolumeAt (l : Launch) (dC : Nat → ClassId) (dI : Nat → Nat → Nat) (sz : Nat) (L : List Nat) (cid : Nat → ClassId) (K : Int → Nat) (N : Int → Int) (tW : Nat) (sK sV : Nat → Nat) (v : Int → Int → Int) (p0 : Int) (p1 : Int) (hI : xI L K N v) (q0 : ok L K p0 12) (q1 : rg p1) : Met l yX12_setVolumeAt (jk yX12_setVolumeAt cX12_setVolumeAt 3 (some (.object "BookOfAll$Volume"))) ({ frames := 2, cells := 0, slots := 0, locals := 42 }) (va_Pc [.ref p0.toNat, .int (iI p1)] (xP (dC, dI) (xG L cid K N v) (xT cid) tW sK sV sz)) (va_Qq (fun (r : Option Nat) (_ : Unit) => ∃ z : Int, r = opt z ∧ (z < 0 ∨ ok L K z 11)) (fun _ _ => True) (va_A [] sz)) 0 0 (va_A [] sz) := by
  refine Met.ofW (cc := cX12_setVolumeAt) (maxL := 3) (ret := (some (.object "BookOfAll$Volume"))) (by decide) rfl ?_
  intro p e s m args below meth c s₁ B hml hv
  obtain ⟨rfl, ⟨hsz, hP, hK, hD0⟩, hX⟩ := hv
  have hx := B.exec
  have hb := B.bytes
  have hr := B.returns
  have hts := atoms_spec (ws := (jk yX12_setVolumeAt cX12_setVolumeAt 3 (some (.object "BookOfAll$Volume")))) B.pre
  have hj : ∀ w ∈ jw, w.before ([.ref p0.toNat, .int (iI p1)] : List Value).toArray s = true := fun w h => hts w (jm h)
  have hown : s.vm.findClass RX12 = some m.cls := findClass_of_methodNamed B.named
  subst hsz
  have hDw := hD0.self (sz := s.heap.size)
  have hAA : ∀ q : Nat, s.heap.size ≤ q → va_A (xG L cid K N v) s.heap.size q := fun q h => Or.inr h
  have hAw : ∀ q, va_A [] s.heap.size q → va_A (xG L cid K N v) s.heap.size q := ja_nil va_S.rf hAA
  generalize hAe : (va_A [] s.heap.size) = A at hAw ⊢
  have hA : ∀ q : Nat, s.heap.size ≤ q → A q := fun q h => by rw [← hAe]; exact Or.inr h
  have hS : va_S A s.heap s.heap [] := va_S.rf
  have hXa := hX.nar hAw
  have hP : va_P (dC, dI) vwCl (xG L cid K N v) s.heap := hP
  have hl := lv_entry ([.ref p0.toNat, .int (iI p1)]) (n := 3) (Nat.le_of_ble_eq_true rfl)
  rw [lg_entry_eq]
  generalize (lg_sl ([.ref p0.toNat, .int (iI p1)]) ++ List.replicate (3 - (lg_sl ([.ref p0.toNat, .int (iI p1)])).length) Slot.unset).toArray = ls at hl ⊢
  have hl : lv_has ls 3 [(0, .ref p0.toNat), (1, .int (iI p1))] := hl
  generalize hQ : MQ below (va_Qq (fun (r : Option Nat) (_ : Unit) => ∃ z : Int, r = opt z ∧ (z < 0 ∨ ok L K z 11)) (fun _ _ => True) A) ([.ref p0.toNat, .int (iI p1)] : List Value).toArray s 0 0 A = Q
  suffices ST : ∀ (H : Heap) (locs : List Loc), va_P (dC, dI) vwCl (xG L cid K N v) H → va_S A s.heap H locs → W p l e ({ frames := 2, cells := 0, slots := 0, locals := 42 }) s m ([.ref p0.toNat, .int (iI p1)] : List Value).toArray below meth c H locs 0 0 Q (F0 m 0 ls []) from ST _ _ hP hS
  clear hP hS
  intro H locs hP hS
  refine lv_aload_n hx hb dX12_setVolumeAt_0 rfl (lv_at hl 0 rfl) ?_
  refine lv_iload_n hx hb dX12_setVolumeAt_1 rfl (lv_at hl 1 rfl) ?_
  refine jc_q (va_runV (As := [.int (iI p1)]) (rest := []) ⟨hx, hb, hml, hown, hts⟩ (sX12_volumeAt l dC dI _ L cid K N tW sK sV v p0 p1 hI q0 (by omega)) (cwV 1 hts (jgoodV m_989 m_990 m_991 m_873 m_992) rfl rfl rfl (by decide +kernel) ⟨(Nat.le_of_ble_eq_true rfl), (Nat.le_of_ble_eq_true rfl)⟩) ⟨xP_blind, xrecv hK hP q0 rfl rfl, fun U hU hW => ⟨rfl, xP_of hU hW hP hK hDw hX hS hAw hAA⟩⟩ rfl rfl hl.1 rfl (lv_room (Nat.le_of_ble_eq_true rfl)) dX12_setVolumeAt_2 ⟨(Nat.le_of_ble_eq_true rfl), (Nat.le_of_ble_eq_true rfl)⟩) hP hS hA (fun r_1 H locs w_2 hP hS => ?_)
  obtain ⟨z_3, rfl, h_4⟩ := w_2
  refine jt_q (rv z_3) rfl ?_
  refine xq_astore_n (i := 2) (lv' := [(2, rv z_3), (0, .ref p0.toNat), (1, .int (iI p1))]) hx hb dX12_setVolumeAt_5 rfl hl (by decide) rfl (fun ls hl => ?_)
  refine xq_aload_n hx hb dX12_setVolumeAt_6 rfl (lv_at hl 0 rfl) ?_
  refine xq_ifnull (tgt := 22) hx hb dX12_setVolumeAt_7 (by decide) (fun h_5 => ?_) (fun h_5 => ?_)
  · refine lv_null hx hb dX12_setVolumeAt_22 ?_
    refine jt_q (rv (-1)) rv_nul ?_
    rw [← hQ]
    exact W.aret (v := rv (-1)) hx hb hr (Or.inl ⟨_, rfl⟩) (rv_or (-1)) (fun t ht hW => ⟨⟨opt (-1), (), rfl, ⟨-1, rfl, (Or.inl (by decide))⟩, trivial⟩, hS.F ht⟩) hS.2.2 dX12_setVolumeAt_23
  · have h_6 : ok L K z_3 11 := h_4.resolve_left (by omega)
    refine xq_aload_n hx hb dX12_setVolumeAt_10 rfl (lv_at hl 0 rfl) ?_
    refine jt_q (.ref z_3.toNat) (rv_ref (h_6).1) ?_
    have h_7 : (-2147483648) ≤ v z_3 1 ∧ v z_3 1 ≤ 2147483647 := xf_11_1 hI h_6
    refine gx_RX12_170 (y := v z_3 1) hx hb hj hown hK hP h_6 rfl dX12_setVolumeAt_11 ?_
    refine lv_iconst (v := iI (-1)) hx hb dX12_setVolumeAt_14 rfl ?_
    refine xr_icmp_eq (tgt := 22) hx hb dX12_setVolumeAt_15 (by decide) (by omega) (by omega) (fun h_8 => ?_) (fun h_8 => ?_)
    · refine lv_null hx hb dX12_setVolumeAt_22 ?_
      refine jt_q (rv (-1)) rv_nul ?_
      rw [← hQ]
      exact W.aret (v := rv (-1)) hx hb hr (Or.inl ⟨_, rfl⟩) (rv_or (-1)) (fun t ht hW => ⟨⟨opt (-1), (), rfl, ⟨-1, rfl, (Or.inl (by decide))⟩, trivial⟩, hS.F ht⟩) hS.2.2 dX12_setVolumeAt_23
    · refine xq_aload_n hx hb dX12_setVolumeAt_18 rfl (lv_at hl 0 rfl) ?_
      refine jt_q (.ref z_3.toNat) (rv_ref (h_6).1) ?_
      refine lv_goto (tgt := 23) hx hb dX12_setVolumeAt_19 (by decide) ?_
      rw [← hQ]
      refine jt_q (rv z_3) (rv_ref (h_6).1).symm ?_
      exact W.aret (v := rv z_3) hx hb hr (Or.inl ⟨_, rfl⟩) (rv_or z_3) (fun t ht hW => ⟨⟨opt z_3, (), rfl, ⟨z_3, rfl, (Or.inr h_6)⟩, trivial⟩, hS.F ht⟩) hS.2.2 dX12_setVolumeAt_23
set_option maxHeartbeats 2000000 in
set_option maxRecDepth 100000 in
theorem sX12_areEntries (l : Launch) (dC : Nat → ClassId) (dI : Nat → Nat → Nat) (sz : Nat) (L : List Nat) (cid : Nat → ClassId) (K : Int → Nat) (N : Int → Int) (tW : Nat) (sK sV : Nat → Nat) (v : Int → Int → Int) (p0 : Int) (p1 : Int) (p2 : Int) (hI : xI L K N v) (q0 : ok L K p0 12) (q1 : rg p1) (q2 : rg p2) : Met l yX12_areEntries (jk yX12_areEntries cX12_areEntries 8 (some .boolean)) ({ frames := 1, cells := 0, slots := 0, locals := 21 }) (va_Pc [.ref p0.toNat, .int (iI p1), .int (iI p2)] (xP (dC, dI) (xG L cid K N v) (xT cid) tW sK sV sz)) (va_Qi (fun (r : Int32) (_ : Unit) => ∃ z : Int, r = iI z ∧ (0 ≤ z ∧ z ≤ 1)) (fun _ _ => True) (va_A [] sz)) 0 0 (va_A [] sz) := by
  refine Met.ofW (cc := cX12_areEntries) (maxL := 8) (ret := (some .boolean)) (by decide) rfl ?_
  intro p e s m args below meth c s₁ B hml hv
  obtain ⟨rfl, ⟨hsz, hP, hK, hD0⟩, hX⟩ := hv
  have hx := B.exec
  have hb := B.bytes
  have hr := B.returns
  have hts := atoms_spec (ws := (jk yX12_areEntries cX12_areEntries 8 (some .boolean))) B.pre
  have hj : ∀ w ∈ jw, w.before ([.ref p0.toNat, .int (iI p1), .int (iI p2)] : List Value).toArray s = true := fun w h => hts w (jm h)
  have hown : s.vm.findClass RX12 = some m.cls := findClass_of_methodNamed B.named
  subst hsz
  have hDw := hD0.self (sz := s.heap.size)
  have hAA : ∀ q : Nat, s.heap.size ≤ q → va_A (xG L cid K N v) s.heap.size q := fun q h => Or.inr h
  have hAw : ∀ q, va_A [] s.heap.size q → va_A (xG L cid K N v) s.heap.size q := ja_nil va_S.rf hAA
  generalize hAe : (va_A [] s.heap.size) = A at hAw ⊢
  have hA : ∀ q : Nat, s.heap.size ≤ q → A q := fun q h => by rw [← hAe]; exact Or.inr h
  have hS : va_S A s.heap s.heap [] := va_S.rf
  have hXa := hX.nar hAw
  have hP : va_P (dC, dI) vwCl (xG L cid K N v) s.heap := hP
  have hl := lv_entry ([.ref p0.toNat, .int (iI p1), .int (iI p2)]) (n := 8) (Nat.le_of_ble_eq_true rfl)
  rw [lg_entry_eq]
  generalize (lg_sl ([.ref p0.toNat, .int (iI p1), .int (iI p2)]) ++ List.replicate (8 - (lg_sl ([.ref p0.toNat, .int (iI p1), .int (iI p2)])).length) Slot.unset).toArray = ls at hl ⊢
  have hl : lv_has ls 8 [(0, .ref p0.toNat), (1, .int (iI p1)), (2, .int (iI p2))] := hl
  generalize hQ : MQ below (va_Qi (fun (r : Int32) (_ : Unit) => ∃ z : Int, r = iI z ∧ (0 ≤ z ∧ z ≤ 1)) (fun _ _ => True) A) ([.ref p0.toNat, .int (iI p1), .int (iI p2)] : List Value).toArray s 0 0 A = Q
  suffices ST : ∀ (H : Heap) (locs : List Loc), va_P (dC, dI) vwCl (xG L cid K N v) H → va_S A s.heap H locs → W p l e ({ frames := 1, cells := 0, slots := 0, locals := 21 }) s m ([.ref p0.toNat, .int (iI p1), .int (iI p2)] : List Value).toArray below meth c H locs 0 0 Q (F0 m 0 ls []) from ST _ _ hP hS
  clear hP hS
  intro H locs hP hS
  refine lv_iload_n hx hb dX12_areEntries_0 rfl (lv_at hl 1 rfl) ?_
  refine xr_if_lt (tgt := 14) hx hb dX12_areEntries_1 (by decide) (by omega) (fun h_1 => ?_) (fun h_1 => ?_)
  · refine lv_iconst (v := iI 0) hx hb dX12_areEntries_14 rfl ?_
    rw [← hQ]
    exact W.zret (v := iI 0) (ty := .boolean) hx hb hr (nb_bool (by omega) (by omega)) (fun t ht hW => ⟨⟨iI 0, (), rfl, ⟨0, rfl, by omega⟩, trivial⟩, hS.F ht⟩) hS.2.2 dX12_areEntries_15
  · refine lv_iload_n hx hb dX12_areEntries_4 rfl (lv_at hl 2 rfl) ?_
    refine lv_iconst (v := iI 1) hx hb dX12_areEntries_5 rfl ?_
    refine xr_icmp_lt (tgt := 14) hx hb dX12_areEntries_6 (by decide) (by omega) (by omega) (fun h_2 => ?_) (fun h_2 => ?_)
    · refine lv_iconst (v := iI 0) hx hb dX12_areEntries_14 rfl ?_
      rw [← hQ]
      exact W.zret (v := iI 0) (ty := .boolean) hx hb hr (nb_bool (by omega) (by omega)) (fun t ht hW => ⟨⟨iI 0, (), rfl, ⟨0, rfl, by omega⟩, trivial⟩, hS.F ht⟩) hS.2.2 dX12_areEntries_15
    · refine lv_iload_n hx hb dX12_areEntries_9 rfl (lv_at hl 2 rfl) ?_
      refine lv_iconst (v := iI 4) hx hb dX12_areEntries_10 rfl ?_
      refine xr_icmp_le (tgt := 16) hx hb dX12_areEntries_11 (by decide) (by omega) (by omega) (fun h_3 => ?_) (fun h_3 => ?_)
      · refine lv_lconst hx hb dX12_areEntries_16 rfl ?_
        refine lv_lstore_n (i := 3) (lv' := [(3, .long (Int64.ofNat 0)), (0, .ref p0.toNat), (1, .int (iI p1)), (2, .int (iI p2))]) hx hb dX12_areEntries_17 rfl hl (by decide) rfl (fun ls hl => ?_)
        refine lv_iload_n hx hb dX12_areEntries_18 rfl (lv_at hl 2 rfl) ?_
        refine lv_istore (i := 5) (lv' := [(5, .int (iI p1)), (3, .long (Int64.ofNat 0)), (0, .ref p0.toNat), (1, .int (iI p1)), (2, .int (iI p2))]) hx hb dX12_areEntries_19 hl (by decide) rfl (fun ls hl => ?_)
        refine lv_iconst (v := iI 0) hx hb dX12_areEntries_21 rfl ?_
        refine lv_istore (i := 6) (lv' := [(6, .int (iI 0)), (5, .int (iI p1)), (3, .long (Int64.ofNat 0)), (0, .ref p0.toNat), (1, .int (iI p1)), (2, .int (iI p2))]) hx hb dX12_areEntries_22 hl (by decide) rfl (fun ls hl => ?_)
        have L24 : ∀ (n24 : Nat) (a6_24 a5_24 : Int) (a3_24 : Int64) (H : Heap) (locs : List Loc) (ls : Array Slot), (0 ≤ a6_24 ∧ a6_24 ≤ 4) → (0 ≤ a5_24 ∧ a5_24 ≤ 2147483647) → (0 < (n24 : Int) ∧ p2 - a6_24 < (n24 : Int)) → va_P (dC, dI) vwCl (xG L cid K N v) H → va_S A s.heap H locs → lv_has ls 8 [(6, .int (iI a6_24)), (5, .int (iI a5_24)), (3, .long a3_24), (0, .ref p0.toNat), (1, .int (iI p1)), (2, .int (iI p2))] → W p l e ({ frames := 1, cells := 0, slots := 0, locals := 21 }) s m ([.ref p0.toNat, .int (iI p1), .int (iI p2)] : List Value).toArray below meth c H locs 0 0 Q (F0 m 24 ls []) := by
          intro n24
          induction n24 with
          | zero =>
            intro a6_24 a5_24 a3_24 H locs ls h_4 h_5 hm24 hP hS hl
            exfalso; omega
          | succ n24 ih24 =>
            intro a6_24 a5_24 a3_24 H locs ls h_6 h_7 hm24 hP hS hl
            refine lv_iload hx hb dX12_areEntries_24 (lv_at hl 0 rfl) ?_
            refine lv_iload_n hx hb dX12_areEntries_26 rfl (lv_at hl 5 rfl) ?_
            refine xr_icmp_ge (tgt := 79) hx hb dX12_areEntries_27 (by decide) (by omega) (by omega) (fun h_8 => ?_) (fun h_8 => ?_)
            · refine lv_iload hx hb dX12_areEntries_79 (lv_at hl 1 rfl) ?_
              refine xr_if_ne (tgt := 88) hx hb dX12_areEntries_81 (by decide) (by omega) (fun h_9 => ?_) (fun h_9 => ?_)
              · refine lv_iconst (v := iI 0) hx hb dX12_areEntries_88 rfl ?_
                rw [← hQ]
                exact W.zret (v := iI 0) (ty := .boolean) hx hb hr (nb_bool (by omega) (by omega)) (fun t ht hW => ⟨⟨iI 0, (), rfl, ⟨0, rfl, by omega⟩, trivial⟩, hS.F ht⟩) hS.2.2 dX12_areEntries_89
              · refine lv_iconst (v := iI 1) hx hb dX12_areEntries_84 rfl ?_
                refine lv_goto (tgt := 89) hx hb dX12_areEntries_85 (by decide) ?_
                rw [← hQ]
                exact W.zret (v := iI 1) (ty := .boolean) hx hb hr (nb_bool (by omega) (by omega)) (fun t ht hW => ⟨⟨iI 1, (), rfl, ⟨1, rfl, by omega⟩, trivial⟩, hS.F ht⟩) hS.2.2 dX12_areEntries_89
            · refine lv_iload hx hb dX12_areEntries_30 (lv_at hl 1 rfl) ?_
              refine lv_bipush (v := iI 100) hx hb dX12_areEntries_32 rfl ?_
              refine xr_rem hx hb dX12_areEntries_34 (by omega) (by omega) (by omega) (by omega) ?_
              refine lv_istore (i := 7) (lv' := [(7, .int (iI (a5_24 % 100))), (6, .int (iI a6_24)), (5, .int (iI a5_24)), (3, .long a3_24), (0, .ref p0.toNat), (1, .int (iI p1)), (2, .int (iI p2))]) hx hb dX12_areEntries_35 hl (by decide) rfl (fun ls hl => ?_)
              refine lv_aload_n hx hb dX12_areEntries_37 rfl (lv_at hl 4 rfl) ?_
              refine lv_iload hx hb dX12_areEntries_38 (lv_at hl 0 rfl) ?_
              refine jc_q (va_runV (As := [.int (iI (a5_24 % 100))]) (rest := []) ⟨hx, hb, hml, hown, hts⟩ (sX12_entryAt l dC dI _ L cid K N tW sK sV v p0 (a5_24 % 100) hI q0 (by omega)) (cwV 1 hts (jgoodV m_870 m_871 m_872 m_873 m_874) rfl rfl rfl (by decide +kernel) ⟨(Nat.le_of_ble_eq_true rfl), (Nat.le_of_ble_eq_true rfl)⟩) ⟨xP_blind, xrecv hK hP q0 rfl rfl, fun U hU hW => ⟨rfl, xP_of hU hW hP hK hDw hX hS hAw hAA⟩⟩ rfl rfl hl.1 rfl (lv_room (Nat.le_of_ble_eq_true rfl)) dX12_areEntries_40 ⟨(Nat.le_of_ble_eq_true rfl), (Nat.le_of_ble_eq_true rfl)⟩) hP hS hA (fun r_10 H locs w_11 hP hS => ?_)
              obtain ⟨z_12, rfl, h_13⟩ := w_11
              refine jt_q (rv z_12) rfl ?_
              refine xq_ifnull (tgt := 57) hx hb dX12_areEntries_43 (by decide) (fun h_14 => ?_) (fun h_14 => ?_)
              · refine lv_iconst (v := iI 0) hx hb dX12_areEntries_57 rfl ?_
                rw [← hQ]
                exact W.zret (v := iI 0) (ty := .boolean) hx hb hr (nb_bool (by omega) (by omega)) (fun t ht hW => ⟨⟨iI 0, (), rfl, ⟨0, rfl, by omega⟩, trivial⟩, hS.F ht⟩) hS.2.2 dX12_areEntries_58
              · have h_15 : ok L K z_12 0 := h_13.resolve_left (by omega)
                refine lv_lload_n hx hb dX12_areEntries_46 rfl (lv_at hl 3 rfl) ?_
                refine xl_any (fun u_16 => ?_)
                refine lv_iload hx hb dX12_areEntries_47 (lv_at hl 0 rfl) ?_
                refine lv_lshr hx hb dX12_areEntries_49 rfl ?_
                refine xl_any (fun u_17 => ?_)
                refine lv_lconst hx hb dX12_areEntries_50 rfl ?_
                refine lv_land hx hb dX12_areEntries_51 ?_
                refine xl_any (fun u_18 => ?_)
                refine lv_lconst hx hb dX12_areEntries_52 rfl ?_
                refine W.lcmp hx hb dX12_areEntries_53 ?_
                refine xr_any (fun z_19 h_20 => ?_)
                refine xr_if_eq (tgt := 59) hx hb dX12_areEntries_54 (by decide) (by omega) (fun h_21 => ?_) (fun h_21 => ?_)
                · refine lv_lload_n hx hb dX12_areEntries_59 rfl (lv_at hl 3 rfl) ?_
                  refine xl_any (fun u_22 => ?_)
                  refine lv_lconst hx hb dX12_areEntries_60 rfl ?_
                  refine lv_iload hx hb dX12_areEntries_61 (lv_at hl 0 rfl) ?_
                  refine lv_lshl hx hb dX12_areEntries_63 rfl ?_
                  refine xl_any (fun u_23 => ?_)
                  refine lv_lor hx hb dX12_areEntries_64 ?_
                  refine xl_any (fun u_24 => ?_)
                  refine lv_lstore_n (i := 3) (lv' := [(3, .long (lL u_24)), (7, .int (iI (a5_24 % 100))), (6, .int (iI a6_24)), (5, .int (iI a5_24)), (0, .ref p0.toNat), (1, .int (iI p1)), (2, .int (iI p2))]) hx hb dX12_areEntries_65 rfl hl (by decide) rfl (fun ls hl => ?_)
                  refine lv_iload hx hb dX12_areEntries_66 (lv_at hl 3 rfl) ?_
                  refine lv_bipush (v := iI 100) hx hb dX12_areEntries_68 rfl ?_
                  refine xr_div hx hb dX12_areEntries_70 (by omega) (by omega) (by omega) (by omega) ?_
                  refine lv_istore (i := 5) (lv' := [(5, .int (iI (a5_24 / 100))), (3, .long (lL u_24)), (7, .int (iI (a5_24 % 100))), (6, .int (iI a6_24)), (0, .ref p0.toNat), (1, .int (iI p1)), (2, .int (iI p2))]) hx hb dX12_areEntries_71 hl (by decide) rfl (fun ls hl => ?_)
                  refine lv_iinc (v := iI (a6_24 + 1)) (lv' := [(6, .int (iI (a6_24 + 1))), (5, .int (iI (a5_24 / 100))), (3, .long (lL u_24)), (7, .int (iI (a5_24 % 100))), (0, .ref p0.toNat), (1, .int (iI p1)), (2, .int (iI p2))]) hx hb dX12_areEntries_73 hl (k := 3) rfl (iI_add _ _) (by decide) rfl (fun ls hl => ?_)
                  refine lv_goto (tgt := 24) hx hb dX12_areEntries_76 (by decide) ?_
                  exact ih24 (a6_24 + 1) (a5_24 / 100) (lL u_24) H locs ls (by omega) (by omega) (by omega) hP hS (lv_sub hl [0, 1, 2, 4, 5, 6] rfl)
                · refine lv_iconst (v := iI 0) hx hb dX12_areEntries_57 rfl ?_
                  rw [← hQ]
                  exact W.zret (v := iI 0) (ty := .boolean) hx hb hr (nb_bool (by omega) (by omega)) (fun t ht hW => ⟨⟨iI 0, (), rfl, ⟨0, rfl, by omega⟩, trivial⟩, hS.F ht⟩) hS.2.2 dX12_areEntries_58
        exact L24 (((p2 - 0 : Int)).toNat + 1) 0 p1 (Int64.ofNat 0) H locs ls (by omega) (by omega) (by omega) hP hS hl
      · refine lv_iconst (v := iI 0) hx hb dX12_areEntries_14 rfl ?_
        rw [← hQ]
        exact W.zret (v := iI 0) (ty := .boolean) hx hb hr (nb_bool (by omega) (by omega)) (fun t ht hW => ⟨⟨iI 0, (), rfl, ⟨0, rfl, by omega⟩, trivial⟩, hS.F ht⟩) hS.2.2 dX12_areEntries_15
