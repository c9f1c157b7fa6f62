set_option maxHeartbeats 2000000 in
set_option maxRecDepth 100000 in
theorem sX12_sheet (l : Launch) (dC : Nat → ClassId) (dI : Nat → Nat → Nat) (sz : Nat) (L : List Nat) (cid : Nat → ClassId) (K : Int → Nat) (N : Int → Int) (tW : Nat) (sK sV : Nat → Nat) (v : Int → Int → Int) (p0 : Int) (hI : xI L K N v) (q0 : ok L K p0 12) : Met l yX12_sheet (jk yX12_sheet cX12_sheet 2 (some .int)) ({ frames := 35, cells := 5, slots := 636, locals := 791 }) (va_Pc [.ref p0.toNat] (xP (dC, dI) (xG L cid K N v) (xT cid) tW sK sV sz)) (va_Qi (fun (r : Int32) (u : (List Nat × (Int → Nat) × (Int → Int) × (Int → Int → Int))) => ∃ z : Int, r = iI z ∧ (xI u.1 u.2.1 u.2.2.1 u.2.2.2) ∧ (xE L K N u.1 u.2.1 u.2.2.1) ∧ (frE L K [(7, 1), (7, 6), (7, 7), (7, 8), (7, 10), (7, 14), (8, 1), (13, 0), (13, 1), (13, 2), (13, 3), (21, (-1)), (22, (-1)), (23, (-1)), (24, (-1)), (25, (-1)), (26, (-1)), (27, (-1)), (28, (-1)), (29, (-1)), (66, (-1)), (69, (-1)), (99, 0)] u.2.2.2 v) ∧ (rg z)) (fun u t => va_P (dC, dI) vwCl (xG u.1 cid u.2.1 u.2.2.1 u.2.2.2) t.heap ∧ va_K (dC, dI) vwCl (xT cid) t ∧ va_D (va_A (xG L cid K N v) sz) (xG u.1 cid u.2.1 u.2.2.1 u.2.2.2)) (va_A (xG L cid K N v) sz)) 5 636 (va_A (xG L cid K N v) sz) := by
  refine Met.ofW (cc := cX12_sheet) (maxL := 2) (ret := (some .int)) (by decide) rfl ?_
  intro p e s m args below meth c s₁ B hml hv
  obtain ⟨rfl, ⟨hsz, hP, hK, hD0⟩, hX⟩ := hv
  have hx := B.exec
  have hb := B.bytes
  have hr := B.returns
  have hts := atoms_spec (ws := (jk yX12_sheet cX12_sheet 2 (some .int))) B.pre
  have hj : ∀ w ∈ jw, w.before ([.ref p0.toNat] : List Value).toArray s = true := fun w h => hts w (jm h)
  have hown : s.vm.findClass RX12 = some m.cls := findClass_of_methodNamed B.named
  subst hsz
  have hD := hD0.self (sz := s.heap.size)
  generalize hAe : (va_A (xG L cid K N v) s.heap.size) = A at hD hX ⊢
  have hA : ∀ q : Nat, s.heap.size ≤ q → A q := fun q h => by rw [← hAe]; exact Or.inr h
  have hS : va_S A s.heap s.heap [] := va_S.rf
  have hE0 : xE L K N L K N := xE_rf
  have hF0 : frE L K [(7, 1), (7, 6), (7, 7), (7, 8), (7, 10), (7, 14), (8, 1), (13, 0), (13, 1), (13, 2), (13, 3), (21, (-1)), (22, (-1)), (23, (-1)), (24, (-1)), (25, (-1)), (26, (-1)), (27, (-1)), (28, (-1)), (29, (-1)), (66, (-1)), (69, (-1)), (99, 0)] v v := frE_rf
  have hXa := hX
  have hP : va_P (dC, dI) vwCl (xG L cid K N v) s.heap := hP
  have hl := lv_entry ([.ref p0.toNat]) (n := 2) (Nat.le_of_ble_eq_true rfl)
  rw [lg_entry_eq]
  generalize (lg_sl ([.ref p0.toNat]) ++ List.replicate (2 - (lg_sl ([.ref p0.toNat])).length) Slot.unset).toArray = ls at hl ⊢
  have hl : lv_has ls 2 [(0, .ref p0.toNat)] := hl
  generalize hQ : MQ below (va_Qi (fun (r : Int32) (u : (List Nat × (Int → Nat) × (Int → Int) × (Int → Int → Int))) => ∃ z : Int, r = iI z ∧ (xI u.1 u.2.1 u.2.2.1 u.2.2.2) ∧ (xE L K N u.1 u.2.1 u.2.2.1) ∧ (frE L K [(7, 1), (7, 6), (7, 7), (7, 8), (7, 10), (7, 14), (8, 1), (13, 0), (13, 1), (13, 2), (13, 3), (21, (-1)), (22, (-1)), (23, (-1)), (24, (-1)), (25, (-1)), (26, (-1)), (27, (-1)), (28, (-1)), (29, (-1)), (66, (-1)), (69, (-1)), (99, 0)] u.2.2.2 v) ∧ (rg z)) (fun u t => va_P (dC, dI) vwCl (xG u.1 cid u.2.1 u.2.2.1 u.2.2.2) t.heap ∧ va_K (dC, dI) vwCl (xT cid) t ∧ va_D A (xG u.1 cid u.2.1 u.2.2.1 u.2.2.2)) A) ([.ref p0.toNat] : List Value).toArray s 5 636 A = Q
  suffices ST : ∀ (H : Heap) (locs : List Loc), va_P (dC, dI) vwCl (xG L cid K N v) H → va_S A s.heap H locs → W p l e ({ frames := 35, cells := 5, slots := 636, locals := 791 }) s m ([.ref p0.toNat] : List Value).toArray below meth c H locs 0 0 Q (F0 m 0 ls []) from ST _ _ hP hS
  clear hP hS
  intro H locs hP hS
  refine lv_aload_n hx hb dX12_sheet_0 rfl (lv_at hl 0 rfl) ?_
  have h_1 : ok L K (v p0 3) 8 := xf_12_3 hI q0
  refine gx_RX12_19 (y := v p0 3) hx hb hj hown hK hP q0 ((xf_12_3 hI q0).1) rfl dX12_sheet_1 ?_
  refine jc_i (va_runV (As := []) (rest := []) ⟨hx, hb, hml, hown, hts⟩ (sX8_hasRoomForSheet l dC dI _ L cid K N tW sK sV v (v p0 3) hI h_1) (cwV 0 hts (jgoodV m_1320 m_1321 m_1322 m_928 m_1323) rfl rfl rfl (by decide +kernel) ⟨(Nat.le_of_ble_eq_true rfl), (Nat.le_of_ble_eq_true rfl)⟩) ⟨xP_blind, xrecv hK hP h_1 rfl rfl, fun U hU hW => ⟨rfl, xP_of hU hW hP hK hD hX hS (fun _ h => h) hA⟩⟩ rfl rfl hl.1 rfl (lv_room (Nat.le_of_ble_eq_true rfl)) dX12_sheet_4 ⟨(Nat.le_of_ble_eq_true rfl), (Nat.le_of_ble_eq_true rfl)⟩) hP hS hA (fun r_2 H locs w_3 hP hS => ?_)
  obtain ⟨z_4, rfl, h_5⟩ := w_3
  refine xr_if_eq (tgt := 21) hx hb dX12_sheet_7 (by decide) (by omega) (fun h_6 => ?_) (fun h_6 => ?_)
  · refine lv_iconst (v := iI (-1)) hx hb dX12_sheet_21 rfl ?_
    refine W.widen (k := 5) (n := 636) (Nat.le_of_ble_eq_true rfl) (Nat.le_of_ble_eq_true rfl) ?_
    rw [← hQ]
    exact W.iret (v := iI (-1)) hx hb hr (fun t ht hW => ⟨⟨iI (-1), (L, K, N, v), rfl, ⟨(-1), rfl, hI, hE0, hF0, by omega⟩, by rw [ht]; exact hP, va_K.moved hW.alike hK, hD⟩, hS.F ht⟩) hS.2.2 dX12_sheet_22
  · refine lv_aload_n hx hb dX12_sheet_10 rfl (lv_at hl 0 rfl) ?_
    have h_7 : ok L K (v p0 2) 7 := xf_12_2 hI q0
    refine gx_RX12_10 (y := v p0 2) hx hb hj hown hK hP q0 ((xf_12_2 hI q0).1) rfl dX12_sheet_11 ?_
    refine jcg_i (va_runV (As := []) (rest := []) ⟨hx, hb, hml, hown, hts⟩ (sX7_parse l dC dI _ L cid K N tW sK sV v (v p0 2) hI h_7) (cwV 0 hts (jgoodV m_981 m_982 m_983 m_677 m_984) rfl rfl rfl (by decide +kernel) ⟨(Nat.le_of_ble_eq_true rfl), (Nat.le_of_ble_eq_true rfl)⟩) ⟨xP_blind, xrecv hK hP h_7 rfl rfl, fun U hU hW => ⟨rfl, xP_of hU hW hP hK hD hX hS (fun _ h => h) hA⟩⟩ rfl rfl hl.1 rfl (lv_room (Nat.le_of_ble_eq_true rfl)) dX12_sheet_14 ⟨(Nat.le_of_ble_eq_true rfl), (Nat.le_of_ble_eq_true rfl)⟩) hD hS hA (fun r_8 v_12 H locs w_9 hP hK hD hS => ?_)
    obtain ⟨z_10, rfl, I_14, f_13, h_11⟩ := w_9
    have hP : va_P (dC, dI) vwCl (xG L cid K N v_12) H := hP
    have hD : va_D A (xG L cid K N v_12) := hD
    refine lv_iconst (v := iI (-1)) hx hb dX12_sheet_17 rfl ?_
    refine xr_icmp_eq (tgt := 23) hx hb dX12_sheet_18 (by decide) (by omega) (by omega) (fun h_15 => ?_) (fun h_15 => ?_)
    · refine lv_aload_n hx hb dX12_sheet_23 rfl (lv_at hl 0 rfl) ?_
      refine gx_RX12_19 (y := v p0 3) hx hb hj hown hK hP q0 ((xf_12_3 I_14 q0).1) (fr_use q0 f_13 rfl) dX12_sheet_24 ?_
      refine lv_aload_n hx hb dX12_sheet_27 rfl (lv_at hl 0 rfl) ?_
      refine gx_RX12_10 (y := v p0 2) hx hb hj hown hK hP q0 ((xf_12_2 I_14 q0).1) (fr_use q0 f_13 rfl) dX12_sheet_28 ?_
      refine jcg_q (va_runV (As := []) (rest := [.ref (v p0 3).toNat]) ⟨hx, hb, hml, hown, hts⟩ (sX7_compiled l dC dI _ L cid K N tW sK sV v_12 (v p0 2) I_14 h_7) (cwV 0 hts (jgoodV m_1324 m_1325 m_1326 m_677 m_1327) rfl rfl rfl (by decide +kernel) ⟨(Nat.le_of_ble_eq_true rfl), (Nat.le_of_ble_eq_true rfl)⟩) ⟨xP_blind, xrecv hK hP h_7 rfl rfl, fun U hU hW => ⟨rfl, xP_of hU hW hP hK hD hX hS (fun _ h => h) hA⟩⟩ rfl rfl hl.1 rfl (lv_room (Nat.le_of_ble_eq_true rfl)) dX12_sheet_31 ⟨(Nat.le_of_ble_eq_true rfl), (Nat.le_of_ble_eq_true rfl)⟩) hD hS hA (fun r_16 u_20 H locs w_17 hP hK hD hS => ?_)
      refine W.widen (k := 5) (n := 636) (Nat.le_of_ble_eq_true rfl) (Nat.le_of_ble_eq_true rfl) ?_
      obtain ⟨L_21, K_22, N_23, v_24⟩ := u_20
      obtain ⟨z_18, rfl, I_26, E_27, f_25, h_19⟩ := w_17
      have hP : va_P (dC, dI) vwCl (xG L_21 cid K_22 N_23 v_24) H := hP
      have hD : va_D A (xG L_21 cid K_22 N_23 v_24) := hD
      have I_26 : xI L_21 K_22 N_23 v_24 := I_26
      have E_27 : xE L K N L_21 K_22 N_23 := E_27
      have f_25 : frE L K [(13, 0), (13, 1), (13, 2), (13, 3), (66, (-1)), (69, (-1)), (99, 0)] v_24 v_12 := f_25
      have F_28 := frE_fr (W := [(7, 1), (7, 6), (7, 7), (7, 8), (7, 10), (7, 14), (8, 1), (13, 0), (13, 1), (13, 2), (13, 3), (21, (-1)), (22, (-1)), (23, (-1)), (24, (-1)), (25, (-1)), (26, (-1)), (27, (-1)), (28, (-1)), (29, (-1)), (66, (-1)), (69, (-1)), (99, 0)]) (W1 := [(7, 1), (7, 6), (7, 7), (7, 8), (7, 10), (7, 14), (8, 1), (13, 0), (13, 1), (13, 2), (13, 3), (21, (-1)), (22, (-1)), (23, (-1)), (24, (-1)), (25, (-1)), (26, (-1)), (27, (-1)), (28, (-1)), (29, (-1)), (66, (-1)), (69, (-1)), (99, 0)]) hE0 (fr_tr f_13 rfl fr_rf) rfl hF0
      have F_30 := frE_frE (W := [(7, 1), (7, 6), (7, 7), (7, 8), (7, 10), (7, 14), (8, 1), (13, 0), (13, 1), (13, 2), (13, 3), (21, (-1)), (22, (-1)), (23, (-1)), (24, (-1)), (25, (-1)), (26, (-1)), (27, (-1)), (28, (-1)), (29, (-1)), (66, (-1)), (69, (-1)), (99, 0)]) hE0 f_25 rfl F_28
      have E_29 := xE_tr hE0 E_27
      have h_31 := xE_ok E_27 q0
      have h_32 := xE_ok E_27 h_1
      have h_33 := xE_ok E_27 h_7
      refine jt_q (.ref z_18.toNat) (rv_ref h_19.1) ?_
      refine jcg_i (va_runV (As := [.ref z_18.toNat]) (rest := []) ⟨hx, hb, hml, hown, hts⟩ (sX8_keep l dC dI _ L_21 cid K_22 N_23 tW sK sV v_24 (v p0 3) z_18 I_26 h_32 h_19) (cwV 1 hts (jgoodV m_1328 m_1329 m_1330 m_928 m_1331) rfl rfl rfl (by decide +kernel) ⟨(Nat.le_of_ble_eq_true rfl), (Nat.le_of_ble_eq_true rfl)⟩) ⟨xP_blind, xrecv hK hP h_32 rfl rfl, fun U hU hW => ⟨rfl, xP_of hU hW hP hK hD hX hS (fun _ h => h) hA⟩⟩ rfl rfl hl.1 rfl (lv_room (Nat.le_of_ble_eq_true rfl)) dX12_sheet_34 ⟨(Nat.le_of_ble_eq_true rfl), (Nat.le_of_ble_eq_true rfl)⟩) hD hS hA (fun r_34 v_38 H locs w_35 hP hK hD hS => ?_)
      obtain ⟨z_36, rfl, I_40, f_39, h_37⟩ := w_35
      have hP : va_P (dC, dI) vwCl (xG L_21 cid K_22 N_23 v_38) H := hP
      have hD : va_D A (xG L_21 cid K_22 N_23 v_38) := hD
      refine lv_istore_n (i := 1) (lv' := [(1, .int (iI z_36)), (0, .ref p0.toNat)]) hx hb dX12_sheet_37 rfl hl (by decide) rfl (fun ls hl => ?_)
      refine lv_aload_n hx hb dX12_sheet_38 rfl (lv_at hl 1 rfl) ?_
      refine gx_RX12_10 (y := v p0 2) hx hb hj hown hK hP h_31 ((xf_12_2 I_40 h_31).1) (((fr_use h_31 f_39 rfl)).trans (((frE_use q0 f_25 rfl)).trans (fr_use q0 f_13 rfl))) dX12_sheet_39 ?_
      refine lv_iconst (v := iI 0) hx hb dX12_sheet_42 rfl ?_
      refine px_RX12_103 (y := 0) hx hb hj hown hK hP hD hS I_40 h_33 ⟨by omega, by omega⟩ dX12_sheet_43 (fun v_41 H locs f_42 e_43 o_44 I_45 hP hD hS => ?_)
      refine lv_iload_n hx hb dX12_sheet_46 rfl (lv_at hl 0 rfl) ?_
      have F_46 := frE_fr (W := [(7, 1), (7, 6), (7, 7), (7, 8), (7, 10), (7, 14), (8, 1), (13, 0), (13, 1), (13, 2), (13, 3), (21, (-1)), (22, (-1)), (23, (-1)), (24, (-1)), (25, (-1)), (26, (-1)), (27, (-1)), (28, (-1)), (29, (-1)), (66, (-1)), (69, (-1)), (99, 0)]) (W1 := [(7, 1), (7, 6), (7, 7), (7, 8), (7, 10), (7, 14), (8, 1), (13, 0), (13, 1), (13, 2), (13, 3), (21, (-1)), (22, (-1)), (23, (-1)), (24, (-1)), (25, (-1)), (26, (-1)), (27, (-1)), (28, (-1)), (29, (-1)), (66, (-1)), (69, (-1)), (99, 0)]) E_29 (fr_tr f_42 rfl (fr_tr f_39 rfl fr_rf)) rfl F_30
      rw [← hQ]
      exact W.iret (v := iI z_36) hx hb hr (fun t ht hW => ⟨⟨iI z_36, (L_21, K_22, N_23, v_41), rfl, ⟨z_36, rfl, I_45, E_29, F_46, by omega⟩, by rw [ht]; exact hP, va_K.moved hW.alike hK, hD⟩, hS.F ht⟩) hS.2.2 dX12_sheet_47
    · refine lv_iconst (v := iI (-1)) hx hb dX12_sheet_21 rfl ?_
      have F_47 := frE_fr (W := [(7, 1), (7, 6), (7, 7), (7, 8), (7, 10), (7, 14), (8, 1), (13, 0), (13, 1), (13, 2), (13, 3), (21, (-1)), (22, (-1)), (23, (-1)), (24, (-1)), (25, (-1)), (26, (-1)), (27, (-1)), (28, (-1)), (29, (-1)), (66, (-1)), (69, (-1)), (99, 0)]) (W1 := [(7, 1), (7, 6), (7, 7), (7, 8), (7, 10), (7, 14), (8, 1), (13, 0), (13, 1), (13, 2), (13, 3), (21, (-1)), (22, (-1)), (23, (-1)), (24, (-1)), (25, (-1)), (26, (-1)), (27, (-1)), (28, (-1)), (29, (-1)), (66, (-1)), (69, (-1)), (99, 0)]) hE0 (fr_tr f_13 rfl fr_rf) rfl hF0
      refine W.widen (k := 5) (n := 636) (Nat.le_of_ble_eq_true rfl) (Nat.le_of_ble_eq_true rfl) ?_
      rw [← hQ]
      exact W.iret (v := iI (-1)) hx hb hr (fun t ht hW => ⟨⟨iI (-1), (L, K, N, v_12), rfl, ⟨(-1), rfl, I_14, hE0, F_47, by omega⟩, by rw [ht]; exact hP, va_K.moved hW.alike hK, hD⟩, hS.F ht⟩) hS.2.2 dX12_sheet_22
set_option maxHeartbeats 2000000 in
set_option maxRecDepth 100000 in
theorem sX12_newEntry (l : Launch) (dC : Nat → ClassId) (dI : Nat → Nat → Nat) (sz : Nat) (L : List Nat) (cid : Nat → ClassId) (K : Int → Nat) (N : Int → Int) (tW : Nat) (sK sV : Nat → Nat) (v : Int → Int → Int) (p0 : Int) (p1 : Int) (p2 : Int) (p3 : Int) (p4 : Int) (hI : xI L K N v) (q0 : ok L K p0 12) (q1 : rg p1) (q2 : rg p2) (q3 : rg p3) (q4 : rg p4) : Met l yX12_newEntry (jk yX12_newEntry cX12_newEntry 7 (some (.object "BookOfAll$Entry"))) ({ frames := 5, cells := 2, slots := 30, locals := 137 }) (va_Pc [.ref p0.toNat, .int (iI p1), .int (iI p2), .int (iI p3), .int (iI p4)] (xP (dC, dI) (xG L cid K N v) (xT cid) tW sK sV sz)) (va_Qq (fun (r : Option Nat) (u : (List Nat × (Int → Nat) × (Int → Int) × (Int → Int → Int))) => ∃ z : Int, r = opt z ∧ (xI u.1 u.2.1 u.2.2.1 u.2.2.2) ∧ (xE L K N u.1 u.2.1 u.2.2.1) ∧ (frE L K [(0, 3), (0, 4), (0, 5), (0, 6), (6, 1), (6, 2), (6, 3), (6, 4), (6, 5), (12, 7), (34, (-1)), (36, (-1)), (65, (-1)), (99, 0)] u.2.2.2 v) ∧ (z < 0 ∨ ok u.1 u.2.1 z 0)) (fun u t => va_P (dC, dI) vwCl (xG u.1 cid u.2.1 u.2.2.1 u.2.2.2) t.heap ∧ va_K (dC, dI) vwCl (xT cid) t ∧ va_D (va_A (xG L cid K N v) sz) (xG u.1 cid u.2.1 u.2.2.1 u.2.2.2)) (va_A (xG L cid K N v) sz)) 2 30 (va_A (xG L cid K N v) sz) := by
  refine Met.ofW (cc := cX12_newEntry) (maxL := 7) (ret := (some (.object "BookOfAll$Entry"))) (by decide) rfl ?_
  intro p e s m args below meth c s₁ B hml hv
  obtain ⟨rfl, ⟨hsz, hP, hK, hD0⟩, hX⟩ := hv
  have hx := B.exec
  have hb := B.bytes
  have hr := B.returns
  have hts := atoms_spec (ws := (jk yX12_newEntry cX12_newEntry 7 (some (.object "BookOfAll$Entry")))) B.pre
  have hj : ∀ w ∈ jw, w.before ([.ref p0.toNat, .int (iI p1), .int (iI p2), .int (iI p3), .int (iI p4)] : List Value).toArray s = true := fun w h => hts w (jm h)
  have hown : s.vm.findClass RX12 = some m.cls := findClass_of_methodNamed B.named
  subst hsz
  have hD := hD0.self (sz := s.heap.size)
  generalize hAe : (va_A (xG L cid K N v) s.heap.size) = A at hD hX ⊢
  have hA : ∀ q : Nat, s.heap.size ≤ q → A q := fun q h => by rw [← hAe]; exact Or.inr h
  have hS : va_S A s.heap s.heap [] := va_S.rf
  have hE0 : xE L K N L K N := xE_rf
  have hF0 : frE L K [(0, 3), (0, 4), (0, 5), (0, 6), (6, 1), (6, 2), (6, 3), (6, 4), (6, 5), (12, 7), (34, (-1)), (36, (-1)), (65, (-1)), (99, 0)] v v := frE_rf
  have hXa := hX
  have hP : va_P (dC, dI) vwCl (xG L cid K N v) s.heap := hP
  have hl := lv_entry ([.ref p0.toNat, .int (iI p1), .int (iI p2), .int (iI p3), .int (iI p4)]) (n := 7) (Nat.le_of_ble_eq_true rfl)
  rw [lg_entry_eq]
  generalize (lg_sl ([.ref p0.toNat, .int (iI p1), .int (iI p2), .int (iI p3), .int (iI p4)]) ++ List.replicate (7 - (lg_sl ([.ref p0.toNat, .int (iI p1), .int (iI p2), .int (iI p3), .int (iI p4)])).length) Slot.unset).toArray = ls at hl ⊢
  have hl : lv_has ls 7 [(0, .ref p0.toNat), (1, .int (iI p1)), (2, .int (iI p2)), (3, .int (iI p3)), (4, .int (iI p4))] := hl
  generalize hQ : MQ below (va_Qq (fun (r : Option Nat) (u : (List Nat × (Int → Nat) × (Int → Int) × (Int → Int → Int))) => ∃ z : Int, r = opt z ∧ (xI u.1 u.2.1 u.2.2.1 u.2.2.2) ∧ (xE L K N u.1 u.2.1 u.2.2.1) ∧ (frE L K [(0, 3), (0, 4), (0, 5), (0, 6), (6, 1), (6, 2), (6, 3), (6, 4), (6, 5), (12, 7), (34, (-1)), (36, (-1)), (65, (-1)), (99, 0)] u.2.2.2 v) ∧ (z < 0 ∨ ok u.1 u.2.1 z 0)) (fun u t => va_P (dC, dI) vwCl (xG u.1 cid u.2.1 u.2.2.1 u.2.2.2) t.heap ∧ va_K (dC, dI) vwCl (xT cid) t ∧ va_D A (xG u.1 cid u.2.1 u.2.2.1 u.2.2.2)) A) ([.ref p0.toNat, .int (iI p1), .int (iI p2), .int (iI p3), .int (iI p4)] : List Value).toArray s 2 30 A = Q
  suffices ST : ∀ (H : Heap) (locs : List Loc), va_P (dC, dI) vwCl (xG L cid K N v) H → va_S A s.heap H locs → W p l e ({ frames := 5, cells := 2, slots := 30, locals := 137 }) s m ([.ref p0.toNat, .int (iI p1), .int (iI p2), .int (iI p3), .int (iI p4)] : List Value).toArray below meth c H locs 0 0 Q (F0 m 0 ls []) from ST _ _ hP hS
  clear hP hS
  intro H locs hP hS
  refine lv_iload_n hx hb dX12_newEntry_0 rfl (lv_at hl 2 rfl) ?_
  refine lv_iload_n hx hb dX12_newEntry_1 rfl (lv_at hl 3 rfl) ?_
  refine lv_iload hx hb dX12_newEntry_2 (lv_at hl 4 rfl) ?_
  refine jc_i (va_runS (As := [.int (iI p2), .int (iI p3), .int (iI p4)]) (rest := []) ⟨hx, hb, hml, hown, hts⟩ (sX0_headingSize l dC dI _ p2 p3 p4 (by omega) (by omega) (by omega)) (va_cwS 3 hts (jgoodS m_1332 m_1333 m_666 m_1334) rfl rfl rfl (by decide +kernel) ⟨(Nat.le_of_ble_eq_true rfl), (Nat.le_of_ble_eq_true rfl)⟩) ⟨jw_blind0, fun U hU hW => ⟨rfl, congrArg Array.size hU⟩⟩ rfl rfl hl.1 rfl (lv_room (Nat.le_of_ble_eq_true rfl)) dX12_newEntry_4 ⟨(Nat.le_of_ble_eq_true rfl), (Nat.le_of_ble_eq_true rfl)⟩) hP hS hA (fun r_1 H locs w_2 hP hS => ?_)
  obtain ⟨z_3, rfl, h_4, h_5⟩ := w_2
  refine lv_istore (i := 5) (lv' := [(5, .int (iI z_3)), (0, .ref p0.toNat), (1, .int (iI p1)), (2, .int (iI p2)), (3, .int (iI p3)), (4, .int (iI p4))]) hx hb dX12_newEntry_7 hl (by decide) rfl (fun ls hl => ?_)
  refine lv_iload hx hb dX12_newEntry_9 (lv_at hl 0 rfl) ?_
  refine lv_iconst (v := iI (-1)) hx hb dX12_newEntry_11 rfl ?_
  refine xr_icmp_eq (tgt := 24) hx hb dX12_newEntry_12 (by decide) (by omega) (by omega) (fun h_6 => ?_) (fun h_6 => ?_)
  · refine lv_null hx hb dX12_newEntry_24 ?_
    refine jt_q (rv (-1)) rv_nul ?_
    refine W.widen (k := 2) (n := 30) (Nat.le_of_ble_eq_true rfl) (Nat.le_of_ble_eq_true rfl) ?_
    rw [← hQ]
    exact W.aret (v := rv (-1)) hx hb hr (Or.inl ⟨_, rfl⟩) (rv_or (-1)) (fun t ht hW => ⟨⟨opt (-1), (L, K, N, v), rfl, ⟨-1, rfl, hI, hE0, hF0, (Or.inl (by decide))⟩, by rw [ht]; exact hP, va_K.moved hW.alike hK, hD⟩, hS.F ht⟩) hS.2.2 dX12_newEntry_25
  · refine lv_aload_n hx hb dX12_newEntry_15 rfl (lv_at hl 1 rfl) ?_
    have h_7 : 0 ≤ v p0 7 ∧ v p0 7 ≤ 60 := xf_12_7 hI q0
    refine gx_RX12_203 (y := v p0 7) hx hb hj hown hK hP q0 rfl dX12_newEntry_16 ?_
    refine lv_bipush (v := iI 60) hx hb dX12_newEntry_19 rfl ?_
    refine xr_icmp_lt (tgt := 26) hx hb dX12_newEntry_21 (by decide) (by omega) (by omega) (fun h_8 => ?_) (fun h_8 => ?_)
    · refine va_new (ci := 0) (fs := [.int 0, .int 0, .null, .long 0, .int 0, .int 0, .int 0, .int 0, .int 0, .int 0, .int 0, .int 0, .int 0, .int 0, .int 0, .int 0, .long 0, .int 0]) (C := RX0) (T := TX0) (N := 18) hx hb hts (jh hin_RX0) tyX0 tyX0_ok hown (hts (.classLink RX12 41 RX0) (jm m_1335)) (hts (.instantiable RX0 18) (jm m_1336)) (hts (.initialized RX0) (jm m_666)) hK hP hD hS hA rfl jd_RX0 (Nat.le_of_ble_eq_true rfl) (Nat.le_of_ble_eq_true rfl) dX12_newEntry_26 (fun q_9 H hPn hDn hS => ?_)
      refine W.widen (k := 1) (n := 18) (Nat.le_of_ble_eq_true rfl) (Nat.le_of_ble_eq_true rfl) ?_
      have hP := jp_init hPn
      have hD := jd_init hDn
      refine lv_dup hx hb dX12_newEntry_29 rfl ?_
      refine lv_aload_n hx hb dX12_newEntry_30 rfl (lv_at hl 1 rfl) ?_
      refine gx_RX12_203 (y := v p0 7) hx hb hj hown hK hP q0 rfl dX12_newEntry_31 ?_
      refine lv_iload_n hx hb dX12_newEntry_34 rfl (lv_at hl 2 rfl) ?_
      refine lv_iload hx hb dX12_newEntry_35 (lv_at hl 0 rfl) ?_
      have e_10 := xn_nI (z := z_3) (by omega) (by omega)
      refine jt_i (nI (Int.toNat z_3)) e_10.1 ?_
      refine jci_v (va_runI (As := [.int (iI (v p0 7)), .int (iI p1), .int (nI (Int.toNat z_3))]) (rest := [.ref q_9]) ⟨hx, hb, hml, hown, hts⟩ (iX0_init_1 l dC dI _ q_9 (iI (v p0 7)) (iI p1) (Int.toNat z_3) (by omega) e_10.2) (cwI 3 hts (jgoodI m_1344) rfl rfl rfl (hts (.initialized RX0) (jm m_666)) (hts (.methodLink RX12 206 yX0_init) (jm m_1345)) (hts (.instanceMethod yX0_init) (jm m_1346)) rfl (by decide +kernel) ⟨(Nat.le_of_ble_eq_true rfl), (Nat.le_of_ble_eq_true rfl)⟩) ⟨jw_blind, fun U hU hW => ⟨rfl, jw_of hU hW (jp_last hPn) (hK.sub [] rfl) (jd_last hDn)⟩⟩ rfl rfl hl.1 rfl (lv_room (Nat.le_of_ble_eq_true rfl)) dX12_newEntry_37 ⟨(Nat.le_of_ble_eq_true rfl), (Nat.le_of_ble_eq_true rfl)⟩) hPn hDn hS hA (fun u_11 H locs hPn hK2 hDn hS => ?_)
      refine W.widen (k := 2) (n := 30) (Nat.le_of_ble_eq_true rfl) (Nat.le_of_ble_eq_true rfl) ?_
      have h_12 : u_11.2 1 = cid 1 := cidE (t := .byte) (hK2.sub [0] rfl) hK rfl (fun x h => h)
      obtain ⟨_, z_13, L_14, K_15, N_16, v_17, hz9, E_18, h_19, q_20, h_21, h_22, f_23, I_24, hP9, hD9⟩ := xnew_0 hI hPn hDn h_12 (by omega) ⟨by omega, by omega⟩ ⟨by omega, by omega⟩
      subst hz9
      have hP := hP9
      have hD := hD9
      have F_26 := frE_frE (W := [(0, 3), (0, 4), (0, 5), (0, 6), (6, 1), (6, 2), (6, 3), (6, 4), (6, 5), (12, 7), (34, (-1)), (36, (-1)), (65, (-1)), (99, 0)]) hE0 (f_23 []) rfl hF0
      have E_25 := xE_tr hE0 E_18
      have h_27 := xE_ok E_18 q0
      refine lv_astore (i := 6) (lv' := [(6, .ref z_13.toNat), (5, .int (iI z_3)), (0, .ref p0.toNat), (1, .int (iI p1)), (2, .int (iI p2)), (3, .int (iI p3)), (4, .int (iI p4))]) hx hb dX12_newEntry_40 hl (by decide) rfl (fun ls hl => ?_)
      refine lv_aload hx hb dX12_newEntry_42 (lv_at hl 0 rfl) ?_
      refine lv_iload_n hx hb dX12_newEntry_44 rfl (lv_at hl 4 rfl) ?_
      refine lv_iload_n hx hb dX12_newEntry_45 rfl (lv_at hl 5 rfl) ?_
      refine lv_iload hx hb dX12_newEntry_46 (lv_at hl 6 rfl) ?_
      refine jcg_v (va_runV (As := [.int (iI p2), .int (iI p3), .int (iI p4)]) (rest := []) ⟨hx, hb, hml, hown, hts⟩ (sX0_readHeading l dC dI _ L_14 cid K_15 N_16 tW sK sV v_17 z_13 p2 p3 p4 I_24 h_19 (by omega) (by omega) (by omega)) (cwV 3 hts (jgoodV m_1347 m_1348 m_1349 m_666 m_1350) rfl rfl rfl (by decide +kernel) ⟨(Nat.le_of_ble_eq_true rfl), (Nat.le_of_ble_eq_true rfl)⟩) ⟨xP_blind, xrecv hK hP h_19 rfl rfl, fun U hU hW => ⟨rfl, xP_of hU hW hP hK hD hX hS (fun _ h => h) hA⟩⟩ rfl rfl hl.1 rfl (lv_room (Nat.le_of_ble_eq_true rfl)) dX12_newEntry_48 ⟨(Nat.le_of_ble_eq_true rfl), (Nat.le_of_ble_eq_true rfl)⟩) hD hS hA (fun v_31 H locs w_29 hP hK hD hS => ?_)
      obtain ⟨I_33, f_32⟩ := w_29
      have hP : va_P (dC, dI) vwCl (xG L_14 cid K_15 N_16 v_31) H := hP
      have hD : va_D A (xG L_14 cid K_15 N_16 v_31) := hD
      refine lv_aload_n hx hb dX12_newEntry_51 rfl (lv_at hl 2 rfl) ?_
      have h_34 : ok L_14 K_15 (v p0 6) 36 := (by have h9 := xf_12_6 I_33 h_27; rw [(((fr_use h_27 f_32 rfl)).trans (frE_use q0 (f_23 []) rfl))] at h9; exact h9)
      have h_35 : N_16 (v p0 6) = 60 := xn_36 I_33 h_34
      refine gx_RX12_43 (y := v p0 6) hx hb hj hown hK hP h_27 ((xf_12_6 I_33 h_27).1) (((fr_use h_27 f_32 rfl)).trans (frE_use q0 (f_23 []) rfl)) dX12_newEntry_52 ?_
      refine lv_aload_n hx hb dX12_newEntry_55 rfl (lv_at hl 2 rfl) ?_
      refine gx_RX12_203 (y := v p0 7) hx hb hj hown hK hP h_27 (((fr_use h_27 f_32 rfl)).trans (frE_use q0 (f_23 []) rfl)) dX12_newEntry_56 ?_
      refine lv_aload hx hb dX12_newEntry_59 (lv_at hl 0 rfl) ?_
      refine sx_36 (y := z_13) hx hb hK hP hD hS I_33 h_34 (by omega) (by omega) (by omega) h_19 dX12_newEntry_61 (fun v_36 H locs f_37 e_38 o_39 I_40 hP hD hS => ?_)
      refine lv_aload_n hx hb dX12_newEntry_62 rfl (lv_at hl 2 rfl) ?_
      refine lv_dup hx hb dX12_newEntry_63 rfl ?_
      refine gx_RX12_203 (y := v p0 7) hx hb hj hown hK hP h_27 (((fr_use h_27 f_37 rfl)).trans (((fr_use h_27 f_32 rfl)).trans (frE_use q0 (f_23 []) rfl))) dX12_newEntry_64 ?_
      refine lv_iconst (v := iI 1) hx hb dX12_newEntry_67 rfl ?_
      refine xr_add hx hb dX12_newEntry_68 ?_
      refine px_RX12_203 (y := (v p0 7) + 1) hx hb hj hown hK hP hD hS I_40 h_27 ⟨by omega, by omega⟩ dX12_newEntry_69 (fun v_41 H locs f_42 e_43 o_44 I_45 hP hD hS => ?_)
      refine lv_aload_n hx hb dX12_newEntry_72 rfl (lv_at hl 2 rfl) ?_
      have h_46 : ok L_14 K_15 (v p0 4) 6 := (by have h9 := xf_12_4 I_45 h_27; rw [(((fr_use h_27 f_42 rfl)).trans (((fr_use h_27 f_37 rfl)).trans (((fr_use h_27 f_32 rfl)).trans (frE_use q0 (f_23 []) rfl))))] at h9; exact h9)
      refine gx_RX12_28 (y := v p0 4) hx hb hj hown hK hP h_27 ((xf_12_4 I_45 h_27).1) (((fr_use h_27 f_42 rfl)).trans (((fr_use h_27 f_37 rfl)).trans (((fr_use h_27 f_32 rfl)).trans (frE_use q0 (f_23 []) rfl)))) dX12_newEntry_73 ?_
      refine lv_iconst (v := iI (-1)) hx hb dX12_newEntry_76 rfl ?_
      refine lv_aload_n hx hb dX12_newEntry_77 rfl (lv_at hl 2 rfl) ?_
      have h_47 : 0 ≤ v p0 0 ∧ v p0 0 ≤ 2000 := xf_12_0 hI q0
      refine gx_RX12_133 (y := v p0 0) hx hb hj hown hK hP h_27 (((fr_use h_27 f_42 rfl)).trans (((fr_use h_27 f_37 rfl)).trans (((fr_use h_27 f_32 rfl)).trans (frE_use q0 (f_23 []) rfl)))) dX12_newEntry_78 ?_
      refine jcg_v (va_runV (As := [.int (iI (-1)), .int (iI (v p0 0))]) (rest := []) ⟨hx, hb, hml, hown, hts⟩ (sX6_take l dC dI _ L_14 cid K_15 N_16 tW sK sV v_41 (v p0 4) (-1) (v p0 0) I_45 h_46 (by omega) (by omega)) (cwV 2 hts (jgoodV m_1003 m_1004 m_1005 m_860 m_1006) rfl rfl rfl (by decide +kernel) ⟨(Nat.le_of_ble_eq_true rfl), (Nat.le_of_ble_eq_true rfl)⟩) ⟨xP_blind, xrecv hK hP h_46 rfl rfl, fun U hU hW => ⟨rfl, xP_of hU hW hP hK hD hX hS (fun _ h => h) hA⟩⟩ rfl rfl hl.1 rfl (lv_room (Nat.le_of_ble_eq_true rfl)) dX12_newEntry_81 ⟨(Nat.le_of_ble_eq_true rfl), (Nat.le_of_ble_eq_true rfl)⟩) hD hS hA (fun v_51 H locs w_49 hP hK hD hS => ?_)
      obtain ⟨I_53, f_52⟩ := w_49
      have hP : va_P (dC, dI) vwCl (xG L_14 cid K_15 N_16 v_51) H := hP
      have hD : va_D A (xG L_14 cid K_15 N_16 v_51) := hD
      refine lv_aload hx hb dX12_newEntry_84 (lv_at hl 0 rfl) ?_
      refine lv_aload_n hx hb dX12_newEntry_86 rfl (lv_at hl 2 rfl) ?_
      refine lv_aload hx hb dX12_newEntry_87 (lv_at hl 0 rfl) ?_
      refine jcg_i (va_runV (As := [.ref z_13.toNat]) (rest := [.ref z_13.toNat]) ⟨hx, hb, hml, hown, hts⟩ (sX12_volumeByKey l dC dI _ L_14 cid K_15 N_16 tW sK sV v_51 p0 z_13 I_53 h_27 h_19) (cwV 1 hts (jgoodV m_1007 m_1008 m_1009 m_873 m_1010) rfl rfl rfl (by decide +kernel) ⟨(Nat.le_of_ble_eq_true rfl), (Nat.le_of_ble_eq_true rfl)⟩) ⟨xP_blind, xrecv hK hP h_27 rfl rfl, fun U hU hW => ⟨rfl, xP_of hU hW hP hK hD hX hS (fun _ h => h) hA⟩⟩ rfl rfl hl.1 rfl (lv_room (Nat.le_of_ble_eq_true rfl)) dX12_newEntry_89 ⟨(Nat.le_of_ble_eq_true rfl), (Nat.le_of_ble_eq_true rfl)⟩) hD hS hA (fun r_54 v_58 H locs w_55 hP hK hD hS => ?_)
      obtain ⟨z_56, rfl, I_60, f_59, h_57⟩ := w_55
      have hP : va_P (dC, dI) vwCl (xG L_14 cid K_15 N_16 v_58) H := hP
      have hD : va_D A (xG L_14 cid K_15 N_16 v_58) := hD
      refine px_RX12_220 (y := z_56) hx hb hj hown hK hP hD hS I_60 h_19 ⟨by omega, by omega⟩ dX12_newEntry_92 (fun v_61 H locs f_62 e_63 o_64 I_65 hP hD hS => ?_)
      refine lv_aload hx hb dX12_newEntry_95 (lv_at hl 0 rfl) ?_
      have F_66 := frE_fr (W := [(0, 3), (0, 4), (0, 5), (0, 6), (6, 1), (6, 2), (6, 3), (6, 4), (6, 5), (12, 7), (34, (-1)), (36, (-1)), (65, (-1)), (99, 0)]) (W1 := [(0, 3), (0, 4), (0, 5), (0, 6), (6, 1), (6, 2), (6, 3), (6, 4), (6, 5), (12, 7), (34, (-1)), (36, (-1)), (65, (-1)), (99, 0)]) E_25 (fr_tr f_62 rfl (fr_tr f_59 rfl (fr_tr f_52 rfl (fr_tr f_42 rfl (fr_tr f_37 rfl (fr_tr f_32 rfl fr_rf)))))) rfl F_26
      rw [← hQ]
      refine jt_q (rv z_13) (rv_ref (h_19).1).symm ?_
      exact W.aret (v := rv z_13) hx hb hr (Or.inl ⟨_, rfl⟩) (rv_or z_13) (fun t ht hW => ⟨⟨opt z_13, (L_14, K_15, N_16, v_61), rfl, ⟨z_13, rfl, I_65, E_25, F_66, (Or.inr h_19)⟩, by rw [ht]; exact hP, va_K.moved hW.alike hK, hD⟩, hS.F ht⟩) hS.2.2 dX12_newEntry_97
    · refine lv_null hx hb dX12_newEntry_24 ?_
      refine jt_q (rv (-1)) rv_nul ?_
      refine W.widen (k := 2) (n := 30) (Nat.le_of_ble_eq_true rfl) (Nat.le_of_ble_eq_true rfl) ?_
      rw [← hQ]
      exact W.aret (v := rv (-1)) hx hb hr (Or.inl ⟨_, rfl⟩) (rv_or (-1)) (fun t ht hW => ⟨⟨opt (-1), (L, K, N, v), rfl, ⟨-1, rfl, hI, hE0, hF0, (Or.inl (by decide))⟩, by rw [ht]; exact hP, va_K.moved hW.alike hK, hD⟩, hS.F ht⟩) hS.2.2 dX12_newEntry_25
set_option maxHeartbeats 2000000 in
set_option maxRecDepth 100000 in
theorem sX12_article (l : Launch) (dC : Nat → ClassId) (dI : Nat → Nat → Nat) (sz : Nat) (L : List Nat) (cid : Nat → ClassId) (K : Int → Nat) (N : Int → Int) (tW : Nat) (sK sV : Nat → Nat) (v : Int → Int → Int) (p0 : Int) (p1 : Int) (p2 : Int) (p3 : Int) (p4 : Int) (hI : xI L K N v) (q0 : ok L K p0 12) (q1 : rg p1) (q2 : rg p2) (q3 : rg p3) (q4 : rg p4) : Met l yX12_article (jk yX12_article cX12_article 9 (some .int)) ({ frames := 6, cells := 2, slots := 30, locals := 163 }) (va_Pc [.ref p0.toNat, .int (iI p1), .int (iI p2), .int (iI p3), .int (iI p4)] (xP (dC, dI) (xG L cid K N v) (xT cid) tW sK sV sz)) (va_Qi (fun (r : Int32) (u : (List Nat × (Int → Nat) × (Int → Int) × (Int → Int → Int))) => ∃ z : Int, r = iI z ∧ (xI u.1 u.2.1 u.2.2.1 u.2.2.2) ∧ (xE L K N u.1 u.2.1 u.2.2.1) ∧ (frE L K [(0, 3), (0, 4), (0, 5), (0, 6), (0, 7), (0, 8), (0, 9), (6, 1), (6, 2), (6, 3), (6, 4), (6, 5), (12, 7), (34, (-1)), (36, (-1)), (65, (-1)), (99, 0)] u.2.2.2 v) ∧ (rg z)) (fun u t => va_P (dC, dI) vwCl (xG u.1 cid u.2.1 u.2.2.1 u.2.2.2) t.heap ∧ va_K (dC, dI) vwCl (xT cid) t ∧ va_D (va_A (xG L cid K N v) sz) (xG u.1 cid u.2.1 u.2.2.1 u.2.2.2)) (va_A (xG L cid K N v) sz)) 2 30 (va_A (xG L cid K N v) sz) := by
  refine Met.ofW (cc := cX12_article) (maxL := 9) (ret := (some .int)) (by decide) rfl ?_
  intro p e s m args below meth c s₁ B hml hv
  obtain ⟨rfl, ⟨hsz, hP, hK, hD0⟩, hX⟩ := hv
  have hx := B.exec
  have hb := B.bytes
  have hr := B.returns
  have hts := atoms_spec (ws := (jk yX12_article cX12_article 9 (some .int))) B.pre
  have hj : ∀ w ∈ jw, w.before ([.ref p0.toNat, .int (iI p1), .int (iI p2), .int (iI p3), .int (iI p4)] : List Value).toArray s = true := fun w h => hts w (jm h)
  have hown : s.vm.findClass RX12 = some m.cls := findClass_of_methodNamed B.named
  subst hsz
  have hD := hD0.self (sz := s.heap.size)
  generalize hAe : (va_A (xG L cid K N v) s.heap.size) = A at hD hX ⊢
  have hA : ∀ q : Nat, s.heap.size ≤ q → A q := fun q h => by rw [← hAe]; exact Or.inr h
  have hS : va_S A s.heap s.heap [] := va_S.rf
  have hE0 : xE L K N L K N := xE_rf
  have hF0 : frE L K [(0, 3), (0, 4), (0, 5), (0, 6), (0, 7), (0, 8), (0, 9), (6, 1), (6, 2), (6, 3), (6, 4), (6, 5), (12, 7), (34, (-1)), (36, (-1)), (65, (-1)), (99, 0)] v v := frE_rf
  have hXa := hX
  have hP : va_P (dC, dI) vwCl (xG L cid K N v) s.heap := hP
  have hl := lv_entry ([.ref p0.toNat, .int (iI p1), .int (iI p2), .int (iI p3), .int (iI p4)]) (n := 9) (Nat.le_of_ble_eq_true rfl)
  rw [lg_entry_eq]
  generalize (lg_sl ([.ref p0.toNat, .int (iI p1), .int (iI p2), .int (iI p3), .int (iI p4)]) ++ List.replicate (9 - (lg_sl ([.ref p0.toNat, .int (iI p1), .int (iI p2), .int (iI p3), .int (iI p4)])).length) Slot.unset).toArray = ls at hl ⊢
  have hl : lv_has ls 9 [(0, .ref p0.toNat), (1, .int (iI p1)), (2, .int (iI p2)), (3, .int (iI p3)), (4, .int (iI p4))] := hl
  generalize hQ : MQ below (va_Qi (fun (r : Int32) (u : (List Nat × (Int → Nat) × (Int → Int) × (Int → Int → Int))) => ∃ z : Int, r = iI z ∧ (xI u.1 u.2.1 u.2.2.1 u.2.2.2) ∧ (xE L K N u.1 u.2.1 u.2.2.1) ∧ (frE L K [(0, 3), (0, 4), (0, 5), (0, 6), (0, 7), (0, 8), (0, 9), (6, 1), (6, 2), (6, 3), (6, 4), (6, 5), (12, 7), (34, (-1)), (36, (-1)), (65, (-1)), (99, 0)] u.2.2.2 v) ∧ (rg z)) (fun u t => va_P (dC, dI) vwCl (xG u.1 cid u.2.1 u.2.2.1 u.2.2.2) t.heap ∧ va_K (dC, dI) vwCl (xT cid) t ∧ va_D A (xG u.1 cid u.2.1 u.2.2.1 u.2.2.2)) A) ([.ref p0.toNat, .int (iI p1), .int (iI p2), .int (iI p3), .int (iI p4)] : List Value).toArray s 2 30 A = Q
  suffices ST : ∀ (H : Heap) (locs : List Loc), va_P (dC, dI) vwCl (xG L cid K N v) H → va_S A s.heap H locs → W p l e ({ frames := 6, cells := 2, slots := 30, locals := 163 }) s m ([.ref p0.toNat, .int (iI p1), .int (iI p2), .int (iI p3), .int (iI p4)] : List Value).toArray below meth c H locs 0 0 Q (F0 m 0 ls []) from ST _ _ hP hS
  clear hP hS
  intro H locs hP hS
  refine lv_iload hx hb dX12_article_0 (lv_at hl 4 rfl) ?_
  refine lv_sipush (v := iI 10000) hx hb dX12_article_2 rfl ?_
  refine xr_divA hx hb dX12_article_5 (by omega) (by omega) (fun z_1 h_2 => ?_)
  refine lv_istore (i := 5) (lv' := [(5, .int (iI z_1)), (0, .ref p0.toNat), (1, .int (iI p1)), (2, .int (iI p2)), (3, .int (iI p3)), (4, .int (iI p4))]) hx hb dX12_article_6 hl (by decide) rfl (fun ls hl => ?_)
  refine lv_iload hx hb dX12_article_8 (lv_at hl 5 rfl) ?_
  refine lv_sipush (v := iI 1000) hx hb dX12_article_10 rfl ?_
  refine xr_divA hx hb dX12_article_13 (by omega) (by omega) (fun z_3 h_4 => ?_)
  refine lv_bipush (v := iI 10) hx hb dX12_article_14 rfl ?_
  refine xr_remA hx hb dX12_article_16 (by omega) (by omega) (fun z_5 h_6 => ?_)
  refine lv_istore (i := 6) (lv' := [(6, .int (iI z_5)), (5, .int (iI z_1)), (0, .ref p0.toNat), (1, .int (iI p1)), (2, .int (iI p2)), (3, .int (iI p3)), (4, .int (iI p4))]) hx hb dX12_article_17 hl (by decide) rfl (fun ls hl => ?_)
  refine lv_iload hx hb dX12_article_19 (lv_at hl 6 rfl) ?_
  refine lv_sipush (v := iI 1000) hx hb dX12_article_21 rfl ?_
  refine xr_remA hx hb dX12_article_24 (by omega) (by omega) (fun z_7 h_8 => ?_)
  refine lv_istore (i := 7) (lv' := [(7, .int (iI z_7)), (6, .int (iI z_5)), (5, .int (iI z_1)), (0, .ref p0.toNat), (1, .int (iI p1)), (2, .int (iI p2)), (3, .int (iI p3)), (4, .int (iI p4))]) hx hb dX12_article_25 hl (by decide) rfl (fun ls hl => ?_)
  refine lv_iload hx hb dX12_article_27 (lv_at hl 7 rfl) ?_
  refine xr_if_lt (tgt := 59) hx hb dX12_article_29 (by decide) (by omega) (fun h_9 => ?_) (fun h_9 => ?_)
  · refine lv_iconst (v := iI (-1)) hx hb dX12_article_59 rfl ?_
    refine W.widen (k := 2) (n := 30) (Nat.le_of_ble_eq_true rfl) (Nat.le_of_ble_eq_true rfl) ?_
    rw [← hQ]
    exact W.iret (v := iI (-1)) hx hb hr (fun t ht hW => ⟨⟨iI (-1), (L, K, N, v), rfl, ⟨(-1), rfl, hI, hE0, hF0, by omega⟩, by rw [ht]; exact hP, va_K.moved hW.alike hK, hD⟩, hS.F ht⟩) hS.2.2 dX12_article_60
  · refine lv_iload hx hb dX12_article_32 (lv_at hl 2 rfl) ?_
    refine lv_iconst (v := iI 2) hx hb dX12_article_34 rfl ?_
    refine xr_icmp_gt (tgt := 59) hx hb dX12_article_35 (by decide) (by omega) (by omega) (fun h_10 => ?_) (fun h_10 => ?_)
    · refine lv_iconst (v := iI (-1)) hx hb dX12_article_59 rfl ?_
      refine W.widen (k := 2) (n := 30) (Nat.le_of_ble_eq_true rfl) (Nat.le_of_ble_eq_true rfl) ?_
      rw [← hQ]
      exact W.iret (v := iI (-1)) hx hb hr (fun t ht hW => ⟨⟨iI (-1), (L, K, N, v), rfl, ⟨(-1), rfl, hI, hE0, hF0, by omega⟩, by rw [ht]; exact hP, va_K.moved hW.alike hK, hD⟩, hS.F ht⟩) hS.2.2 dX12_article_60
    · refine lv_iload hx hb dX12_article_38 (lv_at hl 1 rfl) ?_
      refine lv_bipush (v := iI 7) hx hb dX12_article_40 rfl ?_
      refine xr_icmp_gt (tgt := 59) hx hb dX12_article_42 (by decide) (by omega) (by omega) (fun h_11 => ?_) (fun h_11 => ?_)
      · refine lv_iconst (v := iI (-1)) hx hb dX12_article_59 rfl ?_
        refine W.widen (k := 2) (n := 30) (Nat.le_of_ble_eq_true rfl) (Nat.le_of_ble_eq_true rfl) ?_
        rw [← hQ]
        exact W.iret (v := iI (-1)) hx hb hr (fun t ht hW => ⟨⟨iI (-1), (L, K, N, v), rfl, ⟨(-1), rfl, hI, hE0, hF0, by omega⟩, by rw [ht]; exact hP, va_K.moved hW.alike hK, hD⟩, hS.F ht⟩) hS.2.2 dX12_article_60
      · refine lv_iload hx hb dX12_article_45 (lv_at hl 0 rfl) ?_
        refine lv_iconst (v := iI 1) hx hb dX12_article_47 rfl ?_
        refine xr_icmp_lt (tgt := 59) hx hb dX12_article_48 (by decide) (by omega) (by omega) (fun h_12 => ?_) (fun h_12 => ?_)
        · refine lv_iconst (v := iI (-1)) hx hb dX12_article_59 rfl ?_
          refine W.widen (k := 2) (n := 30) (Nat.le_of_ble_eq_true rfl) (Nat.le_of_ble_eq_true rfl) ?_
          rw [← hQ]
          exact W.iret (v := iI (-1)) hx hb hr (fun t ht hW => ⟨⟨iI (-1), (L, K, N, v), rfl, ⟨(-1), rfl, hI, hE0, hF0, by omega⟩, by rw [ht]; exact hP, va_K.moved hW.alike hK, hD⟩, hS.F ht⟩) hS.2.2 dX12_article_60
        · refine lv_iload hx hb dX12_article_51 (lv_at hl 0 rfl) ?_
          refine lv_sipush (v := iI 200) hx hb dX12_article_53 rfl ?_
          refine xr_icmp_le (tgt := 61) hx hb dX12_article_56 (by decide) (by omega) (by omega) (fun h_13 => ?_) (fun h_13 => ?_)
          · refine lv_aload_n hx hb dX12_article_61 rfl (lv_at hl 3 rfl) ?_
            refine lv_iconst (v := iI 0) hx hb dX12_article_62 rfl ?_
            refine lv_iload_n hx hb dX12_article_63 rfl (lv_at hl 4 rfl) ?_
            refine lv_iload_n hx hb dX12_article_64 rfl (lv_at hl 5 rfl) ?_
            refine lv_iload_n hx hb dX12_article_65 rfl (lv_at hl 6 rfl) ?_
            refine jcg_q (va_runV (As := [.int (iI 0), .int (iI p1), .int (iI p2), .int (iI p3)]) (rest := []) ⟨hx, hb, hml, hown, hts⟩ (sX12_newEntry l dC dI _ L cid K N tW sK sV v p0 0 p1 p2 p3 hI q0 (by omega) (by omega) (by omega) (by omega)) (cwV 4 hts (jgoodV m_1351 m_1352 m_1353 m_873 m_1354) rfl rfl rfl (by decide +kernel) ⟨(Nat.le_of_ble_eq_true rfl), (Nat.le_of_ble_eq_true rfl)⟩) ⟨xP_blind, xrecv hK hP q0 rfl rfl, fun U hU hW => ⟨rfl, xP_of hU hW hP hK hD hX hS (fun _ h => h) hA⟩⟩ rfl rfl hl.1 rfl (lv_room (Nat.le_of_ble_eq_true rfl)) dX12_article_66 ⟨(Nat.le_of_ble_eq_true rfl), (Nat.le_of_ble_eq_true rfl)⟩) hD hS hA (fun r_14 u_18 H locs w_15 hP hK hD hS => ?_)
            refine W.widen (k := 2) (n := 30) (Nat.le_of_ble_eq_true rfl) (Nat.le_of_ble_eq_true rfl) ?_
            obtain ⟨L_19, K_20, N_21, v_22⟩ := u_18
            obtain ⟨z_16, rfl, I_24, E_25, f_23, h_17⟩ := w_15
            have hP : va_P (dC, dI) vwCl (xG L_19 cid K_20 N_21 v_22) H := hP
            have hD : va_D A (xG L_19 cid K_20 N_21 v_22) := hD
            have I_24 : xI L_19 K_20 N_21 v_22 := I_24
            have E_25 : xE L K N L_19 K_20 N_21 := E_25
            have f_23 : frE L K [(0, 3), (0, 4), (0, 5), (0, 6), (6, 1), (6, 2), (6, 3), (6, 4), (6, 5), (12, 7), (34, (-1)), (36, (-1)), (65, (-1)), (99, 0)] v_22 v := f_23
            have F_27 := frE_frE (W := [(0, 3), (0, 4), (0, 5), (0, 6), (0, 7), (0, 8), (0, 9), (6, 1), (6, 2), (6, 3), (6, 4), (6, 5), (12, 7), (34, (-1)), (36, (-1)), (65, (-1)), (99, 0)]) hE0 f_23 rfl hF0
            have E_26 := xE_tr hE0 E_25
            have h_28 := xE_ok E_25 q0
            refine jt_q (rv z_16) rfl ?_
            refine xq_astore (i := 8) (lv' := [(8, rv z_16), (7, .int (iI z_7)), (6, .int (iI z_5)), (5, .int (iI z_1)), (0, .ref p0.toNat), (1, .int (iI p1)), (2, .int (iI p2)), (3, .int (iI p3)), (4, .int (iI p4))]) hx hb dX12_article_69 hl (by decide) rfl (fun ls hl => ?_)
            refine xq_aload hx hb dX12_article_71 (lv_at hl 0 rfl) ?_
            refine xq_ifnonnull (tgt := 78) hx hb dX12_article_73 (by decide) (fun h_29 => ?_) (fun h_29 => ?_)
            · have h_30 : ok L_19 K_20 z_16 0 := h_17.resolve_left (by omega)
              refine xq_aload hx hb dX12_article_78 (lv_at hl 0 rfl) ?_
              refine jt_q (.ref z_16.toNat) (rv_ref (h_30).1) ?_
              refine lv_iload hx hb dX12_article_80 (lv_at hl 3 rfl) ?_
              refine px_RX12_177 (y := z_1) hx hb hj hown hK hP hD hS I_24 h_30 ⟨by omega, by omega⟩ dX12_article_82 (fun v_31 H locs f_32 e_33 o_34 I_35 hP hD hS => ?_)
              refine xq_aload hx hb dX12_article_85 (lv_at hl 0 rfl) ?_
              refine jt_q (.ref z_16.toNat) (rv_ref (h_30).1) ?_
              refine lv_iload hx hb dX12_article_87 (lv_at hl 2 rfl) ?_
              refine px_RX12_180 (y := z_5) hx hb hj hown hK hP hD hS I_35 h_30 ⟨by omega, by omega⟩ dX12_article_89 (fun v_36 H locs f_37 e_38 o_39 I_40 hP hD hS => ?_)
              refine xq_aload hx hb dX12_article_92 (lv_at hl 0 rfl) ?_
              refine jt_q (.ref z_16.toNat) (rv_ref (h_30).1) ?_
              refine lv_iload hx hb dX12_article_94 (lv_at hl 1 rfl) ?_
              refine px_RX12_183 (y := z_7) hx hb hj hown hK hP hD hS I_40 h_30 ⟨by omega, by omega⟩ dX12_article_96 (fun v_41 H locs f_42 e_43 o_44 I_45 hP hD hS => ?_)
              refine xq_aload hx hb dX12_article_99 (lv_at hl 0 rfl) ?_
              refine jt_q (.ref z_16.toNat) (rv_ref (h_30).1) ?_
              have h_46 : (-2147483648) ≤ v_22 z_16 0 ∧ v_22 z_16 0 ≤ 2147483647 := xf_0_0 I_24 h_30
              refine gx_RX12_186 (y := v_22 z_16 0) hx hb hj hown hK hP h_30 (((fr_use h_30 f_42 rfl)).trans (((fr_use h_30 f_37 rfl)).trans (fr_use h_30 f_32 rfl))) dX12_article_101 ?_
              have F_47 := frE_fr (W := [(0, 3), (0, 4), (0, 5), (0, 6), (0, 7), (0, 8), (0, 9), (6, 1), (6, 2), (6, 3), (6, 4), (6, 5), (12, 7), (34, (-1)), (36, (-1)), (65, (-1)), (99, 0)]) (W1 := [(0, 3), (0, 4), (0, 5), (0, 6), (0, 7), (0, 8), (0, 9), (6, 1), (6, 2), (6, 3), (6, 4), (6, 5), (12, 7), (34, (-1)), (36, (-1)), (65, (-1)), (99, 0)]) E_26 (fr_tr f_42 rfl (fr_tr f_37 rfl (fr_tr f_32 rfl fr_rf))) rfl F_27
              rw [← hQ]
              exact W.iret (v := iI (v_22 z_16 0)) hx hb hr (fun t ht hW => ⟨⟨iI (v_22 z_16 0), (L_19, K_20, N_21, v_41), rfl, ⟨v_22 z_16 0, rfl, I_45, E_26, F_47, by omega⟩, by rw [ht]; exact hP, va_K.moved hW.alike hK, hD⟩, hS.F ht⟩) hS.2.2 dX12_article_104
            · refine lv_iconst (v := iI (-1)) hx hb dX12_article_76 rfl ?_
              rw [← hQ]
              exact W.iret (v := iI (-1)) hx hb hr (fun t ht hW => ⟨⟨iI (-1), (L_19, K_20, N_21, v_22), rfl, ⟨(-1), rfl, I_24, E_26, F_27, by omega⟩, by rw [ht]; exact hP, va_K.moved hW.alike hK, hD⟩, hS.F ht⟩) hS.2.2 dX12_article_77
          · refine lv_iconst (v := iI (-1)) hx hb dX12_article_59 rfl ?_
            refine W.widen (k := 2) (n := 30) (Nat.le_of_ble_eq_true rfl) (Nat.le_of_ble_eq_true rfl) ?_
            rw [← hQ]
            exact W.iret (v := iI (-1)) hx hb hr (fun t ht hW => ⟨⟨iI (-1), (L, K, N, v), rfl, ⟨(-1), rfl, hI, hE0, hF0, by omega⟩, by rw [ht]; exact hP, va_K.moved hW.alike hK, hD⟩, hS.F ht⟩) hS.2.2 dX12_article_60
set_option maxHeartbeats 2000000 in
set_option maxRecDepth 100000 in
theorem sX12_pointer (l : Launch) (dC : Nat → ClassId) (dI : Nat → Nat → Nat) (sz : Nat) (L : List Nat) (cid : Nat → ClassId) (K : Int → Nat) (N : Int → Int) (tW : Nat) (sK sV : Nat → Nat) (v : Int → Int → Int) (p0 : Int) (p1 : Int) (p2 : Int) (p3 : Int) (p4 : Int) (hI : xI L K N v) (q0 : ok L K p0 12) (q1 : rg p1) (q2 : rg p2) (q3 : rg p3) (q4 : rg p4) : Met l yX12_pointer (jk yX12_pointer cX12_pointer 6 (some .int)) ({ frames := 6, cells := 2, slots := 30, locals := 163 }) (va_Pc [.ref p0.toNat, .int (iI p1), .int (iI p2), .int (iI p3), .int (iI p4)] (xP (dC, dI) (xG L cid K N v) (xT cid) tW sK sV sz)) (va_Qi (fun (r : Int32) (u : (List Nat × (Int → Nat) × (Int → Int) × (Int → Int → Int))) => ∃ z : Int, r = iI z ∧ (xI u.1 u.2.1 u.2.2.1 u.2.2.2) ∧ (xE L K N u.1 u.2.1 u.2.2.1) ∧ (frE L K [(0, 3), (0, 4), (0, 5), (0, 6), (0, 10), (6, 1), (6, 2), (6, 3), (6, 4), (6, 5), (12, 7), (34, (-1)), (36, (-1)), (65, (-1)), (99, 0)] u.2.2.2 v) ∧ (rg z)) (fun u t => va_P (dC, dI) vwCl (xG u.1 cid u.2.1 u.2.2.1 u.2.2.2) t.heap ∧ va_K (dC, dI) vwCl (xT cid) t ∧ va_D (va_A (xG L cid K N v) sz) (xG u.1 cid u.2.1 u.2.2.1 u.2.2.2)) (va_A (xG L cid K N v) sz)) 2 30 (va_A (xG L cid K N v) sz) := by
  refine Met.ofW (cc := cX12_pointer) (maxL := 6) (ret := (some .int)) (by decide) rfl ?_
  intro p e s m args below meth c s₁ B hml hv
  obtain ⟨rfl, ⟨hsz, hP, hK, hD0⟩, hX⟩ := hv
  have hx := B.exec
  have hb := B.bytes
  have hr := B.returns
  have hts := atoms_spec (ws := (jk yX12_pointer cX12_pointer 6 (some .int))) B.pre
  have hj : ∀ w ∈ jw, w.before ([.ref p0.toNat, .int (iI p1), .int (iI p2), .int (iI p3), .int (iI p4)] : List Value).toArray s = true := fun w h => hts w (jm h)
  have hown : s.vm.findClass RX12 = some m.cls := findClass_of_methodNamed B.named
  subst hsz
  have hD := hD0.self (sz := s.heap.size)
  generalize hAe : (va_A (xG L cid K N v) s.heap.size) = A at hD hX ⊢
  have hA : ∀ q : Nat, s.heap.size ≤ q → A q := fun q h => by rw [← hAe]; exact Or.inr h
  have hS : va_S A s.heap s.heap [] := va_S.rf
  have hE0 : xE L K N L K N := xE_rf
  have hF0 : frE L K [(0, 3), (0, 4), (0, 5), (0, 6), (0, 10), (6, 1), (6, 2), (6, 3), (6, 4), (6, 5), (12, 7), (34, (-1)), (36, (-1)), (65, (-1)), (99, 0)] v v := frE_rf
  have hXa := hX
  have hP : va_P (dC, dI) vwCl (xG L cid K N v) s.heap := hP
  have hl := lv_entry ([.ref p0.toNat, .int (iI p1), .int (iI p2), .int (iI p3), .int (iI p4)]) (n := 6) (Nat.le_of_ble_eq_true rfl)
  rw [lg_entry_eq]
  generalize (lg_sl ([.ref p0.toNat, .int (iI p1), .int (iI p2), .int (iI p3), .int (iI p4)]) ++ List.replicate (6 - (lg_sl ([.ref p0.toNat, .int (iI p1), .int (iI p2), .int (iI p3), .int (iI p4)])).length) Slot.unset).toArray = ls at hl ⊢
  have hl : lv_has ls 6 [(0, .ref p0.toNat), (1, .int (iI p1)), (2, .int (iI p2)), (3, .int (iI p3)), (4, .int (iI p4))] := hl
  generalize hQ : MQ below (va_Qi (fun (r : Int32) (u : (List Nat × (Int → Nat) × (Int → Int) × (Int → Int → Int))) => ∃ z : Int, r = iI z ∧ (xI u.1 u.2.1 u.2.2.1 u.2.2.2) ∧ (xE L K N u.1 u.2.1 u.2.2.1) ∧ (frE L K [(0, 3), (0, 4), (0, 5), (0, 6), (0, 10), (6, 1), (6, 2), (6, 3), (6, 4), (6, 5), (12, 7), (34, (-1)), (36, (-1)), (65, (-1)), (99, 0)] u.2.2.2 v) ∧ (rg z)) (fun u t => va_P (dC, dI) vwCl (xG u.1 cid u.2.1 u.2.2.1 u.2.2.2) t.heap ∧ va_K (dC, dI) vwCl (xT cid) t ∧ va_D A (xG u.1 cid u.2.1 u.2.2.1 u.2.2.2)) A) ([.ref p0.toNat, .int (iI p1), .int (iI p2), .int (iI p3), .int (iI p4)] : List Value).toArray s 2 30 A = Q
  suffices ST : ∀ (H : Heap) (locs : List Loc), va_P (dC, dI) vwCl (xG L cid K N v) H → va_S A s.heap H locs → W p l e ({ frames := 6, cells := 2, slots := 30, locals := 163 }) s m ([.ref p0.toNat, .int (iI p1), .int (iI p2), .int (iI p3), .int (iI p4)] : List Value).toArray below meth c H locs 0 0 Q (F0 m 0 ls []) from ST _ _ hP hS
  clear hP hS
  intro H locs hP hS
  refine lv_aload_n hx hb dX12_pointer_0 rfl (lv_at hl 0 rfl) ?_
  refine lv_iload hx hb dX12_pointer_1 (lv_at hl 4 rfl) ?_
  refine jc_q (va_runV (As := [.int (iI p4)]) (rest := []) ⟨hx, hb, hml, hown, hts⟩ (sX12_entryAt l dC dI _ L cid K N tW sK sV v p0 p4 hI q0 (by omega)) (cwV 1 hts (jgoodV m_870 m_871 m_872 m_873 m_874) rfl rfl rfl (by decide +kernel) ⟨(Nat.le_of_ble_eq_true rfl), (Nat.le_of_ble_eq_true rfl)⟩) ⟨xP_blind, xrecv hK hP q0 rfl rfl, fun U hU hW => ⟨rfl, xP_of hU hW hP hK hD hX hS (fun _ h => h) hA⟩⟩ rfl rfl hl.1 rfl (lv_room (Nat.le_of_ble_eq_true rfl)) dX12_pointer_3 ⟨(Nat.le_of_ble_eq_true rfl), (Nat.le_of_ble_eq_true rfl)⟩) hP hS hA (fun r_1 H locs w_2 hP hS => ?_)
  obtain ⟨z_3, rfl, h_4⟩ := w_2
  refine jt_q (rv z_3) rfl ?_
  refine xq_ifnonnull (tgt := 11) hx hb dX12_pointer_6 (by decide) (fun h_5 => ?_) (fun h_5 => ?_)
  · have h_6 : ok L K z_3 0 := h_4.resolve_left (by omega)
    refine lv_aload_n hx hb dX12_pointer_11 rfl (lv_at hl 0 rfl) ?_
    refine lv_iconst (v := iI 1) hx hb dX12_pointer_12 rfl ?_
    refine lv_iload_n hx hb dX12_pointer_13 rfl (lv_at hl 1 rfl) ?_
    refine lv_iload_n hx hb dX12_pointer_14 rfl (lv_at hl 2 rfl) ?_
    refine lv_iload_n hx hb dX12_pointer_15 rfl (lv_at hl 3 rfl) ?_
    refine jcg_q (va_runV (As := [.int (iI 1), .int (iI p1), .int (iI p2), .int (iI p3)]) (rest := []) ⟨hx, hb, hml, hown, hts⟩ (sX12_newEntry l dC dI _ L cid K N tW sK sV v p0 1 p1 p2 p3 hI q0 (by omega) (by omega) (by omega) (by omega)) (cwV 4 hts (jgoodV m_1351 m_1352 m_1353 m_873 m_1354) rfl rfl rfl (by decide +kernel) ⟨(Nat.le_of_ble_eq_true rfl), (Nat.le_of_ble_eq_true rfl)⟩) ⟨xP_blind, xrecv hK hP q0 rfl rfl, fun U hU hW => ⟨rfl, xP_of hU hW hP hK hD hX hS (fun _ h => h) hA⟩⟩ rfl rfl hl.1 rfl (lv_room (Nat.le_of_ble_eq_true rfl)) dX12_pointer_16 ⟨(Nat.le_of_ble_eq_true rfl), (Nat.le_of_ble_eq_true rfl)⟩) hD hS hA (fun r_7 u_11 H locs w_8 hP hK hD hS => ?_)
    refine W.widen (k := 2) (n := 30) (Nat.le_of_ble_eq_true rfl) (Nat.le_of_ble_eq_true rfl) ?_
    obtain ⟨L_12, K_13, N_14, v_15⟩ := u_11
    obtain ⟨z_9, rfl, I_17, E_18, f_16, h_10⟩ := w_8
    have hP : va_P (dC, dI) vwCl (xG L_12 cid K_13 N_14 v_15) H := hP
    have hD : va_D A (xG L_12 cid K_13 N_14 v_15) := hD
    have I_17 : xI L_12 K_13 N_14 v_15 := I_17
    have E_18 : xE L K N L_12 K_13 N_14 := E_18
    have f_16 : frE L K [(0, 3), (0, 4), (0, 5), (0, 6), (6, 1), (6, 2), (6, 3), (6, 4), (6, 5), (12, 7), (34, (-1)), (36, (-1)), (65, (-1)), (99, 0)] v_15 v := f_16
    have F_20 := frE_frE (W := [(0, 3), (0, 4), (0, 5), (0, 6), (0, 10), (6, 1), (6, 2), (6, 3), (6, 4), (6, 5), (12, 7), (34, (-1)), (36, (-1)), (65, (-1)), (99, 0)]) hE0 f_16 rfl hF0
    have E_19 := xE_tr hE0 E_18
    have h_21 := xE_ok E_18 q0
    have h_22 := xE_ok E_18 h_6
    refine jt_q (rv z_9) rfl ?_
    refine xq_astore (i := 5) (lv' := [(5, rv z_9), (0, .ref p0.toNat), (1, .int (iI p1)), (2, .int (iI p2)), (3, .int (iI p3)), (4, .int (iI p4))]) hx hb dX12_pointer_19 hl (by decide) rfl (fun ls hl => ?_)
    refine xq_aload hx hb dX12_pointer_21 (lv_at hl 0 rfl) ?_
    refine xq_ifnonnull (tgt := 28) hx hb dX12_pointer_23 (by decide) (fun h_23 => ?_) (fun h_23 => ?_)
    · have h_24 : ok L_12 K_13 z_9 0 := h_10.resolve_left (by omega)
      refine xq_aload hx hb dX12_pointer_28 (lv_at hl 0 rfl) ?_
      refine jt_q (.ref z_9.toNat) (rv_ref (h_24).1) ?_
      refine lv_iload hx hb dX12_pointer_30 (lv_at hl 5 rfl) ?_
      refine px_RX12_193 (y := p4) hx hb hj hown hK hP hD hS I_17 h_24 ⟨by omega, by omega⟩ dX12_pointer_32 (fun v_25 H locs f_26 e_27 o_28 I_29 hP hD hS => ?_)
      refine xq_aload hx hb dX12_pointer_35 (lv_at hl 0 rfl) ?_
      refine jt_q (.ref z_9.toNat) (rv_ref (h_24).1) ?_
      have h_30 : (-2147483648) ≤ v_15 z_9 0 ∧ v_15 z_9 0 ≤ 2147483647 := xf_0_0 I_17 h_24
      refine gx_RX12_186 (y := v_15 z_9 0) hx hb hj hown hK hP h_24 (fr_use h_24 f_26 rfl) dX12_pointer_37 ?_
      have F_31 := frE_fr (W := [(0, 3), (0, 4), (0, 5), (0, 6), (0, 10), (6, 1), (6, 2), (6, 3), (6, 4), (6, 5), (12, 7), (34, (-1)), (36, (-1)), (65, (-1)), (99, 0)]) (W1 := [(0, 3), (0, 4), (0, 5), (0, 6), (0, 10), (6, 1), (6, 2), (6, 3), (6, 4), (6, 5), (12, 7), (34, (-1)), (36, (-1)), (65, (-1)), (99, 0)]) E_19 (fr_tr f_26 rfl fr_rf) rfl F_20
      rw [← hQ]
      exact W.iret (v := iI (v_15 z_9 0)) hx hb hr (fun t ht hW => ⟨⟨iI (v_15 z_9 0), (L_12, K_13, N_14, v_25), rfl, ⟨v_15 z_9 0, rfl, I_29, E_19, F_31, by omega⟩, by rw [ht]; exact hP, va_K.moved hW.alike hK, hD⟩, hS.F ht⟩) hS.2.2 dX12_pointer_40
    · refine lv_iconst (v := iI (-1)) hx hb dX12_pointer_26 rfl ?_
      rw [← hQ]
      exact W.iret (v := iI (-1)) hx hb hr (fun t ht hW => ⟨⟨iI (-1), (L_12, K_13, N_14, v_15), rfl, ⟨(-1), rfl, I_17, E_19, F_20, by omega⟩, by rw [ht]; exact hP, va_K.moved hW.alike hK, hD⟩, hS.F ht⟩) hS.2.2 dX12_pointer_27
  · refine lv_iconst (v := iI (-1)) hx hb dX12_pointer_9 rfl ?_
    refine W.widen (k := 2) (n := 30) (Nat.le_of_ble_eq_true rfl) (Nat.le_of_ble_eq_true rfl) ?_
    rw [← hQ]
    exact W.iret (v := iI (-1)) hx hb hr (fun t ht hW => ⟨⟨iI (-1), (L, K, N, v), rfl, ⟨(-1), rfl, hI, hE0, hF0, by omega⟩, by rw [ht]; exact hP, va_K.moved hW.alike hK, hD⟩, hS.F ht⟩) hS.2.2 dX12_pointer_10
