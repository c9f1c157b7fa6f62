set_option maxHeartbeats 2000000 in
set_option maxRecDepth 100000 in
theorem sX12_plate (l : Launch) (dC : Nat → ClassId) (dI : Nat → Nat → Nat) (sz : Nat) (L : List Nat) (cid : Nat → ClassId) (K : Int → Nat) (N : Int → Int) (tW : Nat) (sK sV : Nat → Nat) (v : Int → Int → Int) (p0 : Int) (p1 : Int) (p2 : Int) (p3 : Int) (p4 : Int) (p5 : Int) (hI : xI L K N v) (q0 : ok L K p0 12) (q1 : rg p1) (q2 : rg p2) (q3 : rg p3) (q4 : rg p4) (q5 : rg p5) : Met l yX12_plate (jk yX12_plate cX12_plate 7 (some .int)) ({ frames := 6, cells := 2, slots := 30, locals := 163 }) (va_Pc [.ref p0.toNat, .int (iI p1), .int (iI p2), .int (iI p3), .int (iI p4), .int (iI p5)] (xP (dC, dI) (xG L cid K N v) (xT cid) tW sK sV sz)) (va_Qi (fun (r : Int32) (u : (List Nat × (Int → Nat) × (Int → Int) × (Int → Int → Int))) => ∃ z : Int, r = iI z ∧ (xI u.1 u.2.1 u.2.2.1 u.2.2.2) ∧ (xE L K N u.1 u.2.1 u.2.2.1) ∧ (frE L K [(0, 3), (0, 4), (0, 5), (0, 6), (6, 1), (6, 2), (6, 3), (6, 4), (6, 5), (12, 7), (34, (-1)), (36, (-1)), (65, (-1)), (99, 0)] u.2.2.2 v) ∧ (rg z)) (fun u t => va_P (dC, dI) vwCl (xG u.1 cid u.2.1 u.2.2.1 u.2.2.2) t.heap ∧ va_K (dC, dI) vwCl (xT cid) t ∧ va_D (va_A (xG L cid K N v) sz) (xG u.1 cid u.2.1 u.2.2.1 u.2.2.2)) (va_A (xG L cid K N v) sz)) 2 30 (va_A (xG L cid K N v) sz) := by
  refine Met.ofW (cc := cX12_plate) (maxL := 7) (ret := (some .int)) (by decide) rfl ?_
  intro p e s m args below meth c s₁ B hml hv
  obtain ⟨rfl, ⟨hsz, hP, hK, hD0⟩, hX⟩ := hv
  have hx := B.exec
  have hb := B.bytes
  have hr := B.returns
  have hts := atoms_spec (ws := (jk yX12_plate cX12_plate 7 (some .int))) B.pre
  have hj : ∀ w ∈ jw, w.before ([.ref p0.toNat, .int (iI p1), .int (iI p2), .int (iI p3), .int (iI p4), .int (iI p5)] : List Value).toArray s = true := fun w h => hts w (jm h)
  have hown : s.vm.findClass RX12 = some m.cls := findClass_of_methodNamed B.named
  subst hsz
  have hD := hD0.self (sz := s.heap.size)
  generalize hAe : (va_A (xG L cid K N v) s.heap.size) = A at hD hX ⊢
  have hA : ∀ q : Nat, s.heap.size ≤ q → A q := fun q h => by rw [← hAe]; exact Or.inr h
  have hS : va_S A s.heap s.heap [] := va_S.rf
  have hE0 : xE L K N L K N := xE_rf
  have hF0 : frE L K [(0, 3), (0, 4), (0, 5), (0, 6), (6, 1), (6, 2), (6, 3), (6, 4), (6, 5), (12, 7), (34, (-1)), (36, (-1)), (65, (-1)), (99, 0)] v v := frE_rf
  have hXa := hX
  have hP : va_P (dC, dI) vwCl (xG L cid K N v) s.heap := hP
  have hl := lv_entry ([.ref p0.toNat, .int (iI p1), .int (iI p2), .int (iI p3), .int (iI p4), .int (iI p5)]) (n := 7) (Nat.le_of_ble_eq_true rfl)
  rw [lg_entry_eq]
  generalize (lg_sl ([.ref p0.toNat, .int (iI p1), .int (iI p2), .int (iI p3), .int (iI p4), .int (iI p5)]) ++ List.replicate (7 - (lg_sl ([.ref p0.toNat, .int (iI p1), .int (iI p2), .int (iI p3), .int (iI p4), .int (iI p5)])).length) Slot.unset).toArray = ls at hl ⊢
  have hl : lv_has ls 7 [(0, .ref p0.toNat), (1, .int (iI p1)), (2, .int (iI p2)), (3, .int (iI p3)), (4, .int (iI p4)), (5, .int (iI p5))] := hl
  generalize hQ : MQ below (va_Qi (fun (r : Int32) (u : (List Nat × (Int → Nat) × (Int → Int) × (Int → Int → Int))) => ∃ z : Int, r = iI z ∧ (xI u.1 u.2.1 u.2.2.1 u.2.2.2) ∧ (xE L K N u.1 u.2.1 u.2.2.1) ∧ (frE L K [(0, 3), (0, 4), (0, 5), (0, 6), (6, 1), (6, 2), (6, 3), (6, 4), (6, 5), (12, 7), (34, (-1)), (36, (-1)), (65, (-1)), (99, 0)] u.2.2.2 v) ∧ (rg z)) (fun u t => va_P (dC, dI) vwCl (xG u.1 cid u.2.1 u.2.2.1 u.2.2.2) t.heap ∧ va_K (dC, dI) vwCl (xT cid) t ∧ va_D A (xG u.1 cid u.2.1 u.2.2.1 u.2.2.2)) A) ([.ref p0.toNat, .int (iI p1), .int (iI p2), .int (iI p3), .int (iI p4), .int (iI p5)] : List Value).toArray s 2 30 A = Q
  suffices ST : ∀ (H : Heap) (locs : List Loc), va_P (dC, dI) vwCl (xG L cid K N v) H → va_S A s.heap H locs → W p l e ({ frames := 6, cells := 2, slots := 30, locals := 163 }) s m ([.ref p0.toNat, .int (iI p1), .int (iI p2), .int (iI p3), .int (iI p4), .int (iI p5)] : List Value).toArray below meth c H locs 0 0 Q (F0 m 0 ls []) from ST _ _ hP hS
  clear hP hS
  intro H locs hP hS
  refine lv_aload_n hx hb dX12_plate_0 rfl (lv_at hl 0 rfl) ?_
  refine lv_iload hx hb dX12_plate_1 (lv_at hl 4 rfl) ?_
  refine lv_iload hx hb dX12_plate_3 (lv_at hl 5 rfl) ?_
  refine jc_i (va_runV (As := [.int (iI p4), .int (iI p5)]) (rest := []) ⟨hx, hb, hml, hown, hts⟩ (sX12_areEntries l dC dI _ L cid K N tW sK sV v p0 p4 p5 hI q0 (by omega) (by omega)) (cwV 2 hts (jgoodV m_1355 m_1356 m_1357 m_873 m_1358) rfl rfl rfl (by decide +kernel) ⟨(Nat.le_of_ble_eq_true rfl), (Nat.le_of_ble_eq_true rfl)⟩) ⟨xP_blind, xrecv hK hP q0 rfl rfl, fun U hU hW => ⟨rfl, xP_of hU hW hP hK hD hX hS (fun _ h => h) hA⟩⟩ rfl rfl hl.1 rfl (lv_room (Nat.le_of_ble_eq_true rfl)) dX12_plate_5 ⟨(Nat.le_of_ble_eq_true rfl), (Nat.le_of_ble_eq_true rfl)⟩) hP hS hA (fun r_1 H locs w_2 hP hS => ?_)
  obtain ⟨z_3, rfl, h_4⟩ := w_2
  refine xr_if_ne (tgt := 13) hx hb dX12_plate_8 (by decide) (by omega) (fun h_5 => ?_) (fun h_5 => ?_)
  · refine lv_aload_n hx hb dX12_plate_13 rfl (lv_at hl 0 rfl) ?_
    refine lv_iconst (v := iI 2) hx hb dX12_plate_14 rfl ?_
    refine lv_iload_n hx hb dX12_plate_15 rfl (lv_at hl 1 rfl) ?_
    refine lv_iload_n hx hb dX12_plate_16 rfl (lv_at hl 2 rfl) ?_
    refine lv_iload_n hx hb dX12_plate_17 rfl (lv_at hl 3 rfl) ?_
    refine jcg_q (va_runV (As := [.int (iI 2), .int (iI p1), .int (iI p2), .int (iI p3)]) (rest := []) ⟨hx, hb, hml, hown, hts⟩ (sX12_newEntry l dC dI _ L cid K N tW sK sV v p0 2 p1 p2 p3 hI q0 (by omega) (by omega) (by omega) (by omega)) (cwV 4 hts (jgoodV m_1351 m_1352 m_1353 m_873 m_1354) rfl rfl rfl (by decide +kernel) ⟨(Nat.le_of_ble_eq_true rfl), (Nat.le_of_ble_eq_true rfl)⟩) ⟨xP_blind, xrecv hK hP q0 rfl rfl, fun U hU hW => ⟨rfl, xP_of hU hW hP hK hD hX hS (fun _ h => h) hA⟩⟩ rfl rfl hl.1 rfl (lv_room (Nat.le_of_ble_eq_true rfl)) dX12_plate_18 ⟨(Nat.le_of_ble_eq_true rfl), (Nat.le_of_ble_eq_true rfl)⟩) hD hS hA (fun r_6 u_10 H locs w_7 hP hK hD hS => ?_)
    refine W.widen (k := 2) (n := 30) (Nat.le_of_ble_eq_true rfl) (Nat.le_of_ble_eq_true rfl) ?_
    obtain ⟨L_11, K_12, N_13, v_14⟩ := u_10
    obtain ⟨z_8, rfl, I_16, E_17, f_15, h_9⟩ := w_7
    have hP : va_P (dC, dI) vwCl (xG L_11 cid K_12 N_13 v_14) H := hP
    have hD : va_D A (xG L_11 cid K_12 N_13 v_14) := hD
    have I_16 : xI L_11 K_12 N_13 v_14 := I_16
    have E_17 : xE L K N L_11 K_12 N_13 := E_17
    have f_15 : frE L K [(0, 3), (0, 4), (0, 5), (0, 6), (6, 1), (6, 2), (6, 3), (6, 4), (6, 5), (12, 7), (34, (-1)), (36, (-1)), (65, (-1)), (99, 0)] v_14 v := f_15
    have F_19 := frE_frE (W := [(0, 3), (0, 4), (0, 5), (0, 6), (6, 1), (6, 2), (6, 3), (6, 4), (6, 5), (12, 7), (34, (-1)), (36, (-1)), (65, (-1)), (99, 0)]) hE0 f_15 rfl hF0
    have E_18 := xE_tr hE0 E_17
    have h_20 := xE_ok E_17 q0
    refine jt_q (rv z_8) rfl ?_
    refine xq_astore (i := 6) (lv' := [(6, rv z_8), (0, .ref p0.toNat), (1, .int (iI p1)), (2, .int (iI p2)), (3, .int (iI p3)), (4, .int (iI p4)), (5, .int (iI p5))]) hx hb dX12_plate_21 hl (by decide) rfl (fun ls hl => ?_)
    refine xq_aload hx hb dX12_plate_23 (lv_at hl 0 rfl) ?_
    refine xq_ifnonnull (tgt := 32) hx hb dX12_plate_25 (by decide) (fun h_21 => ?_) (fun h_21 => ?_)
    · have h_22 : ok L_11 K_12 z_8 0 := h_9.resolve_left (by omega)
      refine xq_aload hx hb dX12_plate_32 (lv_at hl 0 rfl) ?_
      refine jt_q (.ref z_8.toNat) (rv_ref (h_22).1) ?_
      have h_23 : (-2147483648) ≤ v_14 z_8 0 ∧ v_14 z_8 0 ≤ 2147483647 := xf_0_0 I_16 h_22
      refine gx_RX12_186 (y := v_14 z_8 0) hx hb hj hown hK hP h_22 rfl dX12_plate_34 ?_
      rw [← hQ]
      exact W.iret (v := iI (v_14 z_8 0)) hx hb hr (fun t ht hW => ⟨⟨iI (v_14 z_8 0), (L_11, K_12, N_13, v_14), rfl, ⟨v_14 z_8 0, rfl, I_16, E_18, F_19, by omega⟩, by rw [ht]; exact hP, va_K.moved hW.alike hK, hD⟩, hS.F ht⟩) hS.2.2 dX12_plate_37
    · refine lv_iconst (v := iI (-1)) hx hb dX12_plate_28 rfl ?_
      refine lv_goto (tgt := 37) hx hb dX12_plate_29 (by decide) ?_
      rw [← hQ]
      exact W.iret (v := iI (-1)) hx hb hr (fun t ht hW => ⟨⟨iI (-1), (L_11, K_12, N_13, v_14), rfl, ⟨(-1), rfl, I_16, E_18, F_19, by omega⟩, by rw [ht]; exact hP, va_K.moved hW.alike hK, hD⟩, hS.F ht⟩) hS.2.2 dX12_plate_37
  · refine lv_iconst (v := iI (-1)) hx hb dX12_plate_11 rfl ?_
    refine W.widen (k := 2) (n := 30) (Nat.le_of_ble_eq_true rfl) (Nat.le_of_ble_eq_true rfl) ?_
    rw [← hQ]
    exact W.iret (v := iI (-1)) hx hb hr (fun t ht hW => ⟨⟨iI (-1), (L, K, N, v), rfl, ⟨(-1), rfl, hI, hE0, hF0, by omega⟩, by rw [ht]; exact hP, va_K.moved hW.alike hK, hD⟩, hS.F ht⟩) hS.2.2 dX12_plate_12
set_option maxHeartbeats 2000000 in
set_option maxRecDepth 100000 in
theorem sX12_hand (l : Launch) (dC : Nat → ClassId) (dI : Nat → Nat → Nat) (sz : Nat) (L : List Nat) (cid : Nat → ClassId) (K : Int → Nat) (N : Int → Int) (tW : Nat) (sK sV : Nat → Nat) (v : Int → Int → Int) (p0 : Int) (p1 : Int) (p2 : Int) (p3 : Int) (hI : xI L K N v) (q0 : ok L K p0 12) (q1 : rg p1) (q2 : rg p2) (q3 : rg p3) : Met l yX12_hand (jk yX12_hand cX12_hand 5 (some .int)) ({ frames := 2, cells := 1, slots := 6, locals := 63 }) (va_Pc [.ref p0.toNat, .int (iI p1), .int (iI p2), .int (iI p3)] (xP (dC, dI) (xG L cid K N v) (xT cid) tW sK sV sz)) (va_Qi (fun (r : Int32) (u : (List Nat × (Int → Nat) × (Int → Int) × (Int → Int → Int))) => ∃ z : Int, r = iI z ∧ (xI u.1 u.2.1 u.2.2.1 u.2.2.2) ∧ (xE L K N u.1 u.2.1 u.2.2.1) ∧ (frE L K [(12, 11), (38, (-1)), (99, 0)] u.2.2.2 v) ∧ (rg z)) (fun u t => va_P (dC, dI) vwCl (xG u.1 cid u.2.1 u.2.2.1 u.2.2.2) t.heap ∧ va_K (dC, dI) vwCl (xT cid) t ∧ va_D (va_A (xG L cid K N v) sz) (xG u.1 cid u.2.1 u.2.2.1 u.2.2.2)) (va_A (xG L cid K N v) sz)) 1 6 (va_A (xG L cid K N v) sz) := by
  refine Met.ofW (cc := cX12_hand) (maxL := 5) (ret := (some .int)) (by decide) rfl ?_
  intro p e s m args below meth c s₁ B hml hv
  obtain ⟨rfl, ⟨hsz, hP, hK, hD0⟩, hX⟩ := hv
  have hx := B.exec
  have hb := B.bytes
  have hr := B.returns
  have hts := atoms_spec (ws := (jk yX12_hand cX12_hand 5 (some .int))) B.pre
  have hj : ∀ w ∈ jw, w.before ([.ref p0.toNat, .int (iI p1), .int (iI p2), .int (iI p3)] : List Value).toArray s = true := fun w h => hts w (jm h)
  have hown : s.vm.findClass RX12 = some m.cls := findClass_of_methodNamed B.named
  subst hsz
  have hD := hD0.self (sz := s.heap.size)
  generalize hAe : (va_A (xG L cid K N v) s.heap.size) = A at hD hX ⊢
  have hA : ∀ q : Nat, s.heap.size ≤ q → A q := fun q h => by rw [← hAe]; exact Or.inr h
  have hS : va_S A s.heap s.heap [] := va_S.rf
  have hE0 : xE L K N L K N := xE_rf
  have hF0 : frE L K [(12, 11), (38, (-1)), (99, 0)] v v := frE_rf
  have hXa := hX
  have hP : va_P (dC, dI) vwCl (xG L cid K N v) s.heap := hP
  have hl := lv_entry ([.ref p0.toNat, .int (iI p1), .int (iI p2), .int (iI p3)]) (n := 5) (Nat.le_of_ble_eq_true rfl)
  rw [lg_entry_eq]
  generalize (lg_sl ([.ref p0.toNat, .int (iI p1), .int (iI p2), .int (iI p3)]) ++ List.replicate (5 - (lg_sl ([.ref p0.toNat, .int (iI p1), .int (iI p2), .int (iI p3)])).length) Slot.unset).toArray = ls at hl ⊢
  have hl : lv_has ls 5 [(0, .ref p0.toNat), (1, .int (iI p1)), (2, .int (iI p2)), (3, .int (iI p3))] := hl
  generalize hQ : MQ below (va_Qi (fun (r : Int32) (u : (List Nat × (Int → Nat) × (Int → Int) × (Int → Int → Int))) => ∃ z : Int, r = iI z ∧ (xI u.1 u.2.1 u.2.2.1 u.2.2.2) ∧ (xE L K N u.1 u.2.1 u.2.2.1) ∧ (frE L K [(12, 11), (38, (-1)), (99, 0)] u.2.2.2 v) ∧ (rg z)) (fun u t => va_P (dC, dI) vwCl (xG u.1 cid u.2.1 u.2.2.1 u.2.2.2) t.heap ∧ va_K (dC, dI) vwCl (xT cid) t ∧ va_D A (xG u.1 cid u.2.1 u.2.2.1 u.2.2.2)) A) ([.ref p0.toNat, .int (iI p1), .int (iI p2), .int (iI p3)] : List Value).toArray s 1 6 A = Q
  suffices ST : ∀ (H : Heap) (locs : List Loc), va_P (dC, dI) vwCl (xG L cid K N v) H → va_S A s.heap H locs → W p l e ({ frames := 2, cells := 1, slots := 6, locals := 63 }) s m ([.ref p0.toNat, .int (iI p1), .int (iI p2), .int (iI p3)] : List Value).toArray below meth c H locs 0 0 Q (F0 m 0 ls []) from ST _ _ hP hS
  clear hP hS
  intro H locs hP hS
  refine lv_iload_n hx hb dX12_hand_0 rfl (lv_at hl 1 rfl) ?_
  refine lv_iconst (v := iI 1) hx hb dX12_hand_1 rfl ?_
  have J39 : ∀ (s0_39 : Int) (H : Heap) (locs : List Loc) (ls : Array Slot), (0 ≤ s0_39 ∧ s0_39 ≤ 1) → va_P (dC, dI) vwCl (xG L cid K N v) H → va_D A (xG L cid K N v) → va_S A s.heap H locs → lv_has ls 5 [(0, .ref p0.toNat), (1, .int (iI p1)), (2, .int (iI p2)), (3, .int (iI p3))] → W p l e ({ frames := 2, cells := 1, slots := 6, locals := 63 }) s m ([.ref p0.toNat, .int (iI p1), .int (iI p2), .int (iI p3)] : List Value).toArray below meth c H locs 0 0 Q (F0 m 39 ls [.int (iI s0_39)]) := by
    intro s0_39 H locs ls h_1 hP hD hS hl
    refine lv_istore (i := 4) (lv' := [(4, .int (iI s0_39)), (0, .ref p0.toNat), (1, .int (iI p1)), (2, .int (iI p2)), (3, .int (iI p3))]) hx hb dX12_hand_39 hl (by decide) rfl (fun ls hl => ?_)
    refine lv_iload hx hb dX12_hand_41 (lv_at hl 0 rfl) ?_
    refine xr_if_eq (tgt := 55) hx hb dX12_hand_43 (by decide) (by omega) (fun h_2 => ?_) (fun h_2 => ?_)
    · refine lv_iconst (v := iI (-1)) hx hb dX12_hand_55 rfl ?_
      refine W.widen (k := 1) (n := 6) (Nat.le_of_ble_eq_true rfl) (Nat.le_of_ble_eq_true rfl) ?_
      rw [← hQ]
      exact W.iret (v := iI (-1)) hx hb hr (fun t ht hW => ⟨⟨iI (-1), (L, K, N, v), rfl, ⟨(-1), rfl, hI, hE0, hF0, by omega⟩, by rw [ht]; exact hP, va_K.moved hW.alike hK, hD⟩, hS.F ht⟩) hS.2.2 dX12_hand_56
    · refine lv_aload_n hx hb dX12_hand_46 rfl (lv_at hl 1 rfl) ?_
      have h_3 : 0 ≤ v p0 11 ∧ v p0 11 ≤ 12 := xf_12_11 hI q0
      refine gx_RX12_292 (y := v p0 11) hx hb hj hown hK hP q0 rfl dX12_hand_47 ?_
      refine lv_bipush (v := iI 12) hx hb dX12_hand_50 rfl ?_
      refine xr_icmp_lt (tgt := 57) hx hb dX12_hand_52 (by decide) (by omega) (by omega) (fun h_4 => ?_) (fun h_4 => ?_)
      · refine lv_aload_n hx hb dX12_hand_57 rfl (lv_at hl 1 rfl) ?_
        have h_5 : ok L K (v p0 10) 38 := xf_12_10 hI q0
        have h_6 : N (v p0 10) = 12 := xn_38 hI h_5
        refine gx_RX12_53 (y := v p0 10) hx hb hj hown hK hP q0 ((xf_12_10 hI q0).1) rfl dX12_hand_58 ?_
        refine lv_aload_n hx hb dX12_hand_61 rfl (lv_at hl 1 rfl) ?_
        refine gx_RX12_292 (y := v p0 11) hx hb hj hown hK hP q0 rfl dX12_hand_62 ?_
        refine va_new (ci := 2) (fs := [.int 0, .int 0, .int 0, .int 0, .int 0, .int 0]) (C := RX2) (T := TX2) (N := 6) hx hb hts (jh hin_RX2) tyX2 tyX2_ok hown (hts (.classLink RX12 51 RX2) (jm m_1359)) (hts (.instantiable RX2 6) (jm m_1360)) (hts (.initialized RX2) (jm m_1361)) hK hP hD hS hA rfl jd_RX2 (Nat.le_of_ble_eq_true rfl) (Nat.le_of_ble_eq_true rfl) dX12_hand_65 (fun q_7 H hPn hDn hS => ?_)
        refine W.widen (k := 1) (n := 6) (Nat.le_of_ble_eq_true rfl) (Nat.le_of_ble_eq_true rfl) ?_
        have hP := jp_init hPn
        have hD := jd_init hDn
        refine lv_dup hx hb dX12_hand_68 rfl ?_
        refine lv_iload_n hx hb dX12_hand_69 rfl (lv_at hl 2 rfl) ?_
        refine lv_iload_n hx hb dX12_hand_70 rfl (lv_at hl 3 rfl) ?_
        refine lv_iload_n hx hb dX12_hand_71 rfl (lv_at hl 4 rfl) ?_
        refine jci_v (va_runI (As := [.int (iI p1), .int (iI p2), .int (iI p3)]) (rest := [.ref q_7, .int (iI (v p0 11)), .ref (v p0 10).toNat]) ⟨hx, hb, hml, hown, hts⟩ (iX2_init_1 l dC dI _ q_7 (iI p1) (iI p2) (iI p3)) (cwI 3 hts (jgoodI m_1367) rfl rfl rfl (hts (.initialized RX2) (jm m_1361)) (hts (.methodLink RX12 295 yX2_init) (jm m_1368)) (hts (.instanceMethod yX2_init) (jm m_1369)) rfl (by decide +kernel) ⟨(Nat.le_of_ble_eq_true rfl), (Nat.le_of_ble_eq_true rfl)⟩) ⟨jw_blind, fun U hU hW => ⟨rfl, jw_of hU hW (jp_last hPn) (hK.sub [] rfl) (jd_last hDn)⟩⟩ rfl rfl hl.1 rfl (lv_room (Nat.le_of_ble_eq_true rfl)) dX12_hand_72 ⟨(Nat.le_of_ble_eq_true rfl), (Nat.le_of_ble_eq_true rfl)⟩) hPn hDn hS hA (fun u_8 H locs hPn hK2 hDn hS => ?_)
        refine W.widen (k := 1) (n := 6) (Nat.le_of_ble_eq_true rfl) (Nat.le_of_ble_eq_true rfl) ?_
        obtain ⟨z_9, L_10, K_11, N_12, v_13, hz9, E_14, h_15, q_16, h_17, h_18, f_19, I_20, hP9, hD9⟩ := xnew_2 hI hPn hDn ⟨by omega, by omega⟩ ⟨by omega, by omega⟩ ⟨by omega, by omega⟩
        subst hz9
        have hP := hP9
        have hD := hD9
        have F_22 := frE_frE (W := [(12, 11), (38, (-1)), (99, 0)]) hE0 (f_19 []) rfl hF0
        have E_21 := xE_tr hE0 E_14
        have h_23 := xE_ok E_14 q0
        have h_24 := xE_ok E_14 h_5
        have h_25 : N_12 (v p0 10) = 12 := xn_38 I_20 h_24
        refine sx_38 (y := z_9) hx hb hK hP hD hS I_20 h_24 (by omega) (by omega) (by omega) h_15 dX12_hand_75 (fun v_26 H locs f_27 e_28 o_29 I_30 hP hD hS => ?_)
        refine lv_aload_n hx hb dX12_hand_76 rfl (lv_at hl 1 rfl) ?_
        refine lv_dup hx hb dX12_hand_77 rfl ?_
        refine gx_RX12_292 (y := v p0 11) hx hb hj hown hK hP h_23 (((fr_use h_23 f_27 rfl)).trans (frE_use q0 (f_19 []) rfl)) dX12_hand_78 ?_
        refine lv_iconst (v := iI 1) hx hb dX12_hand_81 rfl ?_
        refine xr_add hx hb dX12_hand_82 ?_
        refine px_RX12_292 (y := (v p0 11) + 1) hx hb hj hown hK hP hD hS I_30 h_23 ⟨by omega, by omega⟩ dX12_hand_83 (fun v_31 H locs f_32 e_33 o_34 I_35 hP hD hS => ?_)
        refine lv_aload_n hx hb dX12_hand_86 rfl (lv_at hl 1 rfl) ?_
        refine gx_RX12_292 (y := (v p0 11) + 1) hx hb hj hown hK hP h_23 e_33 dX12_hand_87 ?_
        refine lv_iconst (v := iI 1) hx hb dX12_hand_90 rfl ?_
        refine xr_sub hx hb dX12_hand_91 ?_
        have F_36 := frE_fr (W := [(12, 11), (38, (-1)), (99, 0)]) (W1 := [(12, 11), (38, (-1)), (99, 0)]) E_21 (fr_tr f_32 rfl (fr_tr f_27 rfl fr_rf)) rfl F_22
        rw [← hQ]
        exact W.iret (v := iI (((v p0 11) + 1) - 1)) hx hb hr (fun t ht hW => ⟨⟨iI (((v p0 11) + 1) - 1), (L_10, K_11, N_12, v_31), rfl, ⟨((v p0 11) + 1) - 1, rfl, I_35, E_21, F_36, by omega⟩, by rw [ht]; exact hP, va_K.moved hW.alike hK, hD⟩, hS.F ht⟩) hS.2.2 dX12_hand_92
      · refine lv_iconst (v := iI (-1)) hx hb dX12_hand_55 rfl ?_
        refine W.widen (k := 1) (n := 6) (Nat.le_of_ble_eq_true rfl) (Nat.le_of_ble_eq_true rfl) ?_
        rw [← hQ]
        exact W.iret (v := iI (-1)) hx hb hr (fun t ht hW => ⟨⟨iI (-1), (L, K, N, v), rfl, ⟨(-1), rfl, hI, hE0, hF0, by omega⟩, by rw [ht]; exact hP, va_K.moved hW.alike hK, hD⟩, hS.F ht⟩) hS.2.2 dX12_hand_56
  have J38 : ∀ (H : Heap) (locs : List Loc) (ls : Array Slot), va_P (dC, dI) vwCl (xG L cid K N v) H → va_D A (xG L cid K N v) → va_S A s.heap H locs → lv_has ls 5 [(0, .ref p0.toNat), (1, .int (iI p1)), (2, .int (iI p2)), (3, .int (iI p3))] → W p l e ({ frames := 2, cells := 1, slots := 6, locals := 63 }) s m ([.ref p0.toNat, .int (iI p1), .int (iI p2), .int (iI p3)] : List Value).toArray below meth c H locs 0 0 Q (F0 m 38 ls []) := by
    intro H locs ls hP hD hS hl
    refine lv_iconst (v := iI 0) hx hb dX12_hand_38 rfl ?_
    exact J39 0 H locs ls (by omega) hP hD hS hl
  refine xr_icmp_lt (tgt := 38) hx hb dX12_hand_2 (by decide) (by omega) (by omega) (fun h_37 => ?_) (fun h_37 => ?_)
  · exact J38 H locs ls hP hD hS hl
  · refine lv_iload_n hx hb dX12_hand_5 rfl (lv_at hl 1 rfl) ?_
    refine lv_sipush (v := iI 255) hx hb dX12_hand_6 rfl ?_
    refine xr_icmp_gt (tgt := 38) hx hb dX12_hand_9 (by decide) (by omega) (by omega) (fun h_38 => ?_) (fun h_38 => ?_)
    · exact J38 H locs ls hP hD hS hl
    · refine lv_iload_n hx hb dX12_hand_12 rfl (lv_at hl 2 rfl) ?_
      refine lv_iconst (v := iI 1) hx hb dX12_hand_13 rfl ?_
      refine xr_icmp_lt (tgt := 38) hx hb dX12_hand_14 (by decide) (by omega) (by omega) (fun h_39 => ?_) (fun h_39 => ?_)
      · exact J38 H locs ls hP hD hS hl
      · refine lv_iload_n hx hb dX12_hand_17 rfl (lv_at hl 2 rfl) ?_
        refine lv_bipush (v := iI 20) hx hb dX12_hand_18 rfl ?_
        refine xr_icmp_gt (tgt := 38) hx hb dX12_hand_20 (by decide) (by omega) (by omega) (fun h_40 => ?_) (fun h_40 => ?_)
        · exact J38 H locs ls hP hD hS hl
        · refine lv_iload_n hx hb dX12_hand_23 rfl (lv_at hl 3 rfl) ?_
          refine lv_ldcw hx hb hown (hts (.constant RX12 291 (-40000)) (jm m_1370)) dX12_hand_24 ?_
          refine jt_i (iI (-40000)) (by decide) ?_
          refine xr_icmp_lt (tgt := 38) hx hb dX12_hand_27 (by decide) (by omega) (by omega) (fun h_41 => ?_) (fun h_41 => ?_)
          · exact J38 H locs ls hP hD hS hl
          · refine lv_iload_n hx hb dX12_hand_30 rfl (lv_at hl 3 rfl) ?_
            refine xr_if_gt (tgt := 38) hx hb dX12_hand_31 (by decide) (by omega) (fun h_42 => ?_) (fun h_42 => ?_)
            · exact J38 H locs ls hP hD hS hl
            · refine lv_iconst (v := iI 1) hx hb dX12_hand_34 rfl ?_
              refine lv_goto (tgt := 39) hx hb dX12_hand_35 (by decide) ?_
              exact J39 1 H locs ls (by omega) hP hD hS hl
set_option maxHeartbeats 2000000 in
set_option maxRecDepth 100000 in
theorem sX12_line (l : Launch) (dC : Nat → ClassId) (dI : Nat → Nat → Nat) (sz : Nat) (L : List Nat) (cid : Nat → ClassId) (K : Int → Nat) (N : Int → Int) (tW : Nat) (sK sV : Nat → Nat) (v : Int → Int → Int) (p0 : Int) (p1 : Int) (p2 : Int) (p3 : Int) (hI : xI L K N v) (q0 : ok L K p0 12) (q1 : rg p1) (q2 : rg p2) (q3 : rg p3) : Met l yX12_line (jk yX12_line cX12_line 7 (some .int)) ({ frames := 5, cells := 1, slots := 9, locals := 139 }) (va_Pc [.ref p0.toNat, .int (iI p1), .int (iI p2), .int (iI p3)] (xP (dC, dI) (xG L cid K N v) (xT cid) tW sK sV sz)) (va_Qi (fun (r : Int32) (u : (List Nat × (Int → Nat) × (Int → Int) × (Int → Int → Int))) => ∃ z : Int, r = iI z ∧ (xI u.1 u.2.1 u.2.2.1 u.2.2.2) ∧ (xE L K N u.1 u.2.1 u.2.2.1) ∧ (frE L K [(0, 15), (0, 16), (0, 17), (2, 5), (4, 3), (4, 4), (4, 5), (4, 6), (4, 8), (12, 13), (33, (-1)), (34, (-1)), (39, (-1)), (99, 0)] u.2.2.2 v) ∧ (rg z)) (fun u t => va_P (dC, dI) vwCl (xG u.1 cid u.2.1 u.2.2.1 u.2.2.2) t.heap ∧ va_K (dC, dI) vwCl (xT cid) t ∧ va_D (va_A (xG L cid K N v) sz) (xG u.1 cid u.2.1 u.2.2.1 u.2.2.2)) (va_A (xG L cid K N v) sz)) 1 9 (va_A (xG L cid K N v) sz) := by
  refine Met.ofW (cc := cX12_line) (maxL := 7) (ret := (some .int)) (by decide) rfl ?_
  intro p e s m args below meth c s₁ B hml hv
  obtain ⟨rfl, ⟨hsz, hP, hK, hD0⟩, hX⟩ := hv
  have hx := B.exec
  have hb := B.bytes
  have hr := B.returns
  have hts := atoms_spec (ws := (jk yX12_line cX12_line 7 (some .int))) B.pre
  have hj : ∀ w ∈ jw, w.before ([.ref p0.toNat, .int (iI p1), .int (iI p2), .int (iI p3)] : List Value).toArray s = true := fun w h => hts w (jm h)
  have hown : s.vm.findClass RX12 = some m.cls := findClass_of_methodNamed B.named
  subst hsz
  have hD := hD0.self (sz := s.heap.size)
  generalize hAe : (va_A (xG L cid K N v) s.heap.size) = A at hD hX ⊢
  have hA : ∀ q : Nat, s.heap.size ≤ q → A q := fun q h => by rw [← hAe]; exact Or.inr h
  have hS : va_S A s.heap s.heap [] := va_S.rf
  have hE0 : xE L K N L K N := xE_rf
  have hF0 : frE L K [(0, 15), (0, 16), (0, 17), (2, 5), (4, 3), (4, 4), (4, 5), (4, 6), (4, 8), (12, 13), (33, (-1)), (34, (-1)), (39, (-1)), (99, 0)] v v := frE_rf
  have hXa := hX
  have hP : va_P (dC, dI) vwCl (xG L cid K N v) s.heap := hP
  have hl := lv_entry ([.ref p0.toNat, .int (iI p1), .int (iI p2), .int (iI p3)]) (n := 7) (Nat.le_of_ble_eq_true rfl)
  rw [lg_entry_eq]
  generalize (lg_sl ([.ref p0.toNat, .int (iI p1), .int (iI p2), .int (iI p3)]) ++ List.replicate (7 - (lg_sl ([.ref p0.toNat, .int (iI p1), .int (iI p2), .int (iI p3)])).length) Slot.unset).toArray = ls at hl ⊢
  have hl : lv_has ls 7 [(0, .ref p0.toNat), (1, .int (iI p1)), (2, .int (iI p2)), (3, .int (iI p3))] := hl
  generalize hQ : MQ below (va_Qi (fun (r : Int32) (u : (List Nat × (Int → Nat) × (Int → Int) × (Int → Int → Int))) => ∃ z : Int, r = iI z ∧ (xI u.1 u.2.1 u.2.2.1 u.2.2.2) ∧ (xE L K N u.1 u.2.1 u.2.2.1) ∧ (frE L K [(0, 15), (0, 16), (0, 17), (2, 5), (4, 3), (4, 4), (4, 5), (4, 6), (4, 8), (12, 13), (33, (-1)), (34, (-1)), (39, (-1)), (99, 0)] u.2.2.2 v) ∧ (rg z)) (fun u t => va_P (dC, dI) vwCl (xG u.1 cid u.2.1 u.2.2.1 u.2.2.2) t.heap ∧ va_K (dC, dI) vwCl (xT cid) t ∧ va_D A (xG u.1 cid u.2.1 u.2.2.1 u.2.2.2)) A) ([.ref p0.toNat, .int (iI p1), .int (iI p2), .int (iI p3)] : List Value).toArray s 1 9 A = Q
  suffices ST : ∀ (H : Heap) (locs : List Loc), va_P (dC, dI) vwCl (xG L cid K N v) H → va_S A s.heap H locs → W p l e ({ frames := 5, cells := 1, slots := 9, locals := 139 }) s m ([.ref p0.toNat, .int (iI p1), .int (iI p2), .int (iI p3)] : List Value).toArray below meth c H locs 0 0 Q (F0 m 0 ls []) from ST _ _ hP hS
  clear hP hS
  intro H locs hP hS
  refine lv_aload_n hx hb dX12_line_0 rfl (lv_at hl 0 rfl) ?_
  refine lv_iload_n hx hb dX12_line_1 rfl (lv_at hl 1 rfl) ?_
  refine lv_iconst (v := iI 0) hx hb dX12_line_2 rfl ?_
  refine jc_q (va_runV (As := [.int (iI p1), .int (iI 0)]) (rest := []) ⟨hx, hb, hml, hown, hts⟩ (sX12_entryOfKind l dC dI _ L cid K N tW sK sV v p0 p1 0 hI q0 (by omega) (by omega)) (cwV 2 hts (jgoodV m_1027 m_1028 m_1029 m_873 m_1030) rfl rfl rfl (by decide +kernel) ⟨(Nat.le_of_ble_eq_true rfl), (Nat.le_of_ble_eq_true rfl)⟩) ⟨xP_blind, xrecv hK hP q0 rfl rfl, fun U hU hW => ⟨rfl, xP_of hU hW hP hK hD hX hS (fun _ h => h) hA⟩⟩ rfl rfl hl.1 rfl (lv_room (Nat.le_of_ble_eq_true rfl)) dX12_line_3 ⟨(Nat.le_of_ble_eq_true rfl), (Nat.le_of_ble_eq_true rfl)⟩) hP hS hA (fun r_1 H locs w_2 hP hS => ?_)
  obtain ⟨z_3, rfl, h_4⟩ := w_2
  refine jt_q (rv z_3) rfl ?_
  refine xq_astore (i := 4) (lv' := [(4, rv z_3), (0, .ref p0.toNat), (1, .int (iI p1)), (2, .int (iI p2)), (3, .int (iI p3))]) hx hb dX12_line_6 hl (by decide) rfl (fun ls hl => ?_)
  refine xq_aload hx hb dX12_line_8 (lv_at hl 0 rfl) ?_
  refine xq_ifnull (tgt := 39) hx hb dX12_line_10 (by decide) (fun h_5 => ?_) (fun h_5 => ?_)
  · refine lv_iconst (v := iI (-1)) hx hb dX12_line_39 rfl ?_
    refine W.widen (k := 1) (n := 9) (Nat.le_of_ble_eq_true rfl) (Nat.le_of_ble_eq_true rfl) ?_
    rw [← hQ]
    exact W.iret (v := iI (-1)) hx hb hr (fun t ht hW => ⟨⟨iI (-1), (L, K, N, v), rfl, ⟨(-1), rfl, hI, hE0, hF0, by omega⟩, by rw [ht]; exact hP, va_K.moved hW.alike hK, hD⟩, hS.F ht⟩) hS.2.2 dX12_line_40
  · have h_6 : ok L K z_3 0 := h_4.resolve_left (by omega)
    refine xq_aload hx hb dX12_line_13 (lv_at hl 0 rfl) ?_
    refine jt_q (.ref z_3.toNat) (rv_ref (h_6).1) ?_
    refine jc_i (va_runV (As := []) (rest := []) ⟨hx, hb, hml, hown, hts⟩ (sX0_isDone l dC dI _ L cid K N tW sK sV v z_3 hI h_6) (cwV 0 hts (jgoodV m_1097 m_1098 m_1099 m_666 m_1100) rfl rfl rfl (by decide +kernel) ⟨(Nat.le_of_ble_eq_true rfl), (Nat.le_of_ble_eq_true rfl)⟩) ⟨xP_blind, xrecv hK hP h_6 rfl rfl, fun U hU hW => ⟨rfl, xP_of hU hW hP hK hD hX hS (fun _ h => h) hA⟩⟩ rfl rfl hl.1 rfl (lv_room (Nat.le_of_ble_eq_true rfl)) dX12_line_15 ⟨(Nat.le_of_ble_eq_true rfl), (Nat.le_of_ble_eq_true rfl)⟩) hP hS hA (fun r_7 H locs w_8 hP hS => ?_)
    obtain ⟨z_9, rfl, h_10, h_11⟩ := w_8
    have h_12 : 0 ≤ v z_3 15 ∧ v z_3 15 ≤ 200 := xf_0_15 hI h_6
    have h_13 : 0 ≤ v z_3 9 ∧ v z_3 9 ≤ 200 := xf_0_9 hI h_6
    refine xr_if_ne (tgt := 39) hx hb dX12_line_18 (by decide) (by omega) (fun h_14 => ?_) (fun h_14 => ?_)
    · refine lv_iconst (v := iI (-1)) hx hb dX12_line_39 rfl ?_
      refine W.widen (k := 1) (n := 9) (Nat.le_of_ble_eq_true rfl) (Nat.le_of_ble_eq_true rfl) ?_
      rw [← hQ]
      exact W.iret (v := iI (-1)) hx hb hr (fun t ht hW => ⟨⟨iI (-1), (L, K, N, v), rfl, ⟨(-1), rfl, hI, hE0, hF0, by omega⟩, by rw [ht]; exact hP, va_K.moved hW.alike hK, hD⟩, hS.F ht⟩) hS.2.2 dX12_line_40
    · refine lv_aload_n hx hb dX12_line_21 rfl (lv_at hl 1 rfl) ?_
      refine xq_aload hx hb dX12_line_22 (lv_at hl 0 rfl) ?_
      refine jt_q (.ref z_3.toNat) (rv_ref (h_6).1) ?_
      refine jc_i (va_runV (As := [.ref z_3.toNat]) (rest := []) ⟨hx, hb, hml, hown, hts⟩ (sX12_isStruck l dC dI _ L cid K N tW sK sV v p0 z_3 hI q0 h_6) (cwV 1 hts (jgoodV m_1060 m_1061 m_1062 m_873 m_1063) rfl rfl rfl (by decide +kernel) ⟨(Nat.le_of_ble_eq_true rfl), (Nat.le_of_ble_eq_true rfl)⟩) ⟨xP_blind, xrecv hK hP q0 rfl rfl, fun U hU hW => ⟨rfl, xP_of hU hW hP hK hD hX hS (fun _ h => h) hA⟩⟩ rfl rfl hl.1 rfl (lv_room (Nat.le_of_ble_eq_true rfl)) dX12_line_24 ⟨(Nat.le_of_ble_eq_true rfl), (Nat.le_of_ble_eq_true rfl)⟩) hP hS hA (fun r_15 H locs w_16 hP hS => ?_)
      obtain ⟨z_17, rfl, h_18⟩ := w_16
      refine xr_if_ne (tgt := 39) hx hb dX12_line_27 (by decide) (by omega) (fun h_19 => ?_) (fun h_19 => ?_)
      · refine lv_iconst (v := iI (-1)) hx hb dX12_line_39 rfl ?_
        refine W.widen (k := 1) (n := 9) (Nat.le_of_ble_eq_true rfl) (Nat.le_of_ble_eq_true rfl) ?_
        rw [← hQ]
        exact W.iret (v := iI (-1)) hx hb hr (fun t ht hW => ⟨⟨iI (-1), (L, K, N, v), rfl, ⟨(-1), rfl, hI, hE0, hF0, by omega⟩, by rw [ht]; exact hP, va_K.moved hW.alike hK, hD⟩, hS.F ht⟩) hS.2.2 dX12_line_40
      · refine lv_aload_n hx hb dX12_line_30 rfl (lv_at hl 1 rfl) ?_
        refine xq_aload hx hb dX12_line_31 (lv_at hl 0 rfl) ?_
        refine jt_q (.ref z_3.toNat) (rv_ref (h_6).1) ?_
        refine jc_i (va_runV (As := [.ref z_3.toNat]) (rest := []) ⟨hx, hb, hml, hown, hts⟩ (sX12_isLater l dC dI _ L cid K N tW sK sV v p0 z_3 hI q0 h_6) (cwV 1 hts (jgoodV m_1031 m_1032 m_1033 m_873 m_1034) rfl rfl rfl (by decide +kernel) ⟨(Nat.le_of_ble_eq_true rfl), (Nat.le_of_ble_eq_true rfl)⟩) ⟨xP_blind, xrecv hK hP q0 rfl rfl, fun U hU hW => ⟨rfl, xP_of hU hW hP hK hD hX hS (fun _ h => h) hA⟩⟩ rfl rfl hl.1 rfl (lv_room (Nat.le_of_ble_eq_true rfl)) dX12_line_33 ⟨(Nat.le_of_ble_eq_true rfl), (Nat.le_of_ble_eq_true rfl)⟩) hP hS hA (fun r_20 H locs w_21 hP hS => ?_)
        obtain ⟨z_22, rfl, h_23⟩ := w_21
        refine xr_if_eq (tgt := 41) hx hb dX12_line_36 (by decide) (by omega) (fun h_24 => ?_) (fun h_24 => ?_)
        · refine lv_aload_n hx hb dX12_line_41 rfl (lv_at hl 1 rfl) ?_
          refine xq_aload hx hb dX12_line_42 (lv_at hl 0 rfl) ?_
          refine jt_q (.ref z_3.toNat) (rv_ref (h_6).1) ?_
          have h_25 : (-2147483648) ≤ v z_3 14 ∧ v z_3 14 ≤ 2147483647 := xf_0_14 hI h_6
          refine gx_RX12_313 (y := v z_3 14) hx hb hj hown hK hP h_6 rfl dX12_line_44 ?_
          refine jc_q (va_runV (As := [.int (iI (v z_3 14))]) (rest := []) ⟨hx, hb, hml, hown, hts⟩ (sX12_livingHandAt l dC dI _ L cid K N tW sK sV v p0 (v z_3 14) hI q0 (by omega)) (cwV 1 hts (jgoodV m_1089 m_1090 m_1091 m_873 m_1092) rfl rfl rfl (by decide +kernel) ⟨(Nat.le_of_ble_eq_true rfl), (Nat.le_of_ble_eq_true rfl)⟩) ⟨xP_blind, xrecv hK hP q0 rfl rfl, fun U hU hW => ⟨rfl, xP_of hU hW hP hK hD hX hS (fun _ h => h) hA⟩⟩ rfl rfl hl.1 rfl (lv_room (Nat.le_of_ble_eq_true rfl)) dX12_line_47 ⟨(Nat.le_of_ble_eq_true rfl), (Nat.le_of_ble_eq_true rfl)⟩) hP hS hA (fun r_26 H locs w_27 hP hS => ?_)
          obtain ⟨z_28, rfl, h_29⟩ := w_27
          refine jt_q (rv z_28) rfl ?_
          refine xq_astore (i := 5) (lv' := [(5, rv z_28), (4, rv z_3), (0, .ref p0.toNat), (1, .int (iI p1)), (2, .int (iI p2)), (3, .int (iI p3))]) hx hb dX12_line_50 hl (by decide) (by simp [rv_cat]) (fun ls hl => ?_)
          refine xq_aload hx hb dX12_line_52 (lv_at hl 0 rfl) ?_
          refine xq_ifnull (tgt := 85) hx hb dX12_line_54 (by decide) (fun h_30 => ?_) (fun h_30 => ?_)
          · refine lv_iconst (v := iI (-1)) hx hb dX12_line_85 rfl ?_
            refine W.widen (k := 1) (n := 9) (Nat.le_of_ble_eq_true rfl) (Nat.le_of_ble_eq_true rfl) ?_
            rw [← hQ]
            exact W.iret (v := iI (-1)) hx hb hr (fun t ht hW => ⟨⟨iI (-1), (L, K, N, v), rfl, ⟨(-1), rfl, hI, hE0, hF0, by omega⟩, by rw [ht]; exact hP, va_K.moved hW.alike hK, hD⟩, hS.F ht⟩) hS.2.2 dX12_line_86
          · have h_31 : ok L K z_28 2 := h_29.resolve_left (by omega)
            refine lv_iload_n hx hb dX12_line_57 rfl (lv_at hl 5 rfl) ?_
            refine xr_if_lt (tgt := 85) hx hb dX12_line_58 (by decide) (by omega) (fun h_32 => ?_) (fun h_32 => ?_)
            · refine lv_iconst (v := iI (-1)) hx hb dX12_line_85 rfl ?_
              refine W.widen (k := 1) (n := 9) (Nat.le_of_ble_eq_true rfl) (Nat.le_of_ble_eq_true rfl) ?_
              rw [← hQ]
              exact W.iret (v := iI (-1)) hx hb hr (fun t ht hW => ⟨⟨iI (-1), (L, K, N, v), rfl, ⟨(-1), rfl, hI, hE0, hF0, by omega⟩, by rw [ht]; exact hP, va_K.moved hW.alike hK, hD⟩, hS.F ht⟩) hS.2.2 dX12_line_86
            · refine lv_iload_n hx hb dX12_line_61 rfl (lv_at hl 5 rfl) ?_
              refine lv_bipush (v := iI 31) hx hb dX12_line_62 rfl ?_
              refine xr_icmp_ge (tgt := 85) hx hb dX12_line_64 (by decide) (by omega) (by omega) (fun h_33 => ?_) (fun h_33 => ?_)
              · refine lv_iconst (v := iI (-1)) hx hb dX12_line_85 rfl ?_
                refine W.widen (k := 1) (n := 9) (Nat.le_of_ble_eq_true rfl) (Nat.le_of_ble_eq_true rfl) ?_
                rw [← hQ]
                exact W.iret (v := iI (-1)) hx hb hr (fun t ht hW => ⟨⟨iI (-1), (L, K, N, v), rfl, ⟨(-1), rfl, hI, hE0, hF0, by omega⟩, by rw [ht]; exact hP, va_K.moved hW.alike hK, hD⟩, hS.F ht⟩) hS.2.2 dX12_line_86
              · refine lv_aload_n hx hb dX12_line_67 rfl (lv_at hl 2 rfl) ?_
                have h_34 : 0 ≤ v p0 13 ∧ v p0 13 ≤ 300 := xf_12_13 hI q0
                refine gx_RX12_370 (y := v p0 13) hx hb hj hown hK hP q0 rfl dX12_line_68 ?_
                refine lv_sipush (v := iI 300) hx hb dX12_line_71 rfl ?_
                refine xr_icmp_ge (tgt := 85) hx hb dX12_line_74 (by decide) (by omega) (by omega) (fun h_35 => ?_) (fun h_35 => ?_)
                · refine lv_iconst (v := iI (-1)) hx hb dX12_line_85 rfl ?_
                  refine W.widen (k := 1) (n := 9) (Nat.le_of_ble_eq_true rfl) (Nat.le_of_ble_eq_true rfl) ?_
                  rw [← hQ]
                  exact W.iret (v := iI (-1)) hx hb hr (fun t ht hW => ⟨⟨iI (-1), (L, K, N, v), rfl, ⟨(-1), rfl, hI, hE0, hF0, by omega⟩, by rw [ht]; exact hP, va_K.moved hW.alike hK, hD⟩, hS.F ht⟩) hS.2.2 dX12_line_86
                · refine lv_aload_n hx hb dX12_line_77 rfl (lv_at hl 2 rfl) ?_
                  refine lv_iload_n hx hb dX12_line_78 rfl (lv_at hl 4 rfl) ?_
                  refine jc_i (va_runV (As := [.int (iI p2)]) (rest := []) ⟨hx, hb, hml, hown, hts⟩ (sX12_canLean l dC dI _ L cid K N tW sK sV v p0 p2 hI q0 (by omega)) (cwV 1 hts (jgoodV m_1371 m_1372 m_1373 m_873 m_1374) rfl rfl rfl (by decide +kernel) ⟨(Nat.le_of_ble_eq_true rfl), (Nat.le_of_ble_eq_true rfl)⟩) ⟨xP_blind, xrecv hK hP q0 rfl rfl, fun U hU hW => ⟨rfl, xP_of hU hW hP hK hD hX hS (fun _ h => h) hA⟩⟩ rfl rfl hl.1 rfl (lv_room (Nat.le_of_ble_eq_true rfl)) dX12_line_79 ⟨(Nat.le_of_ble_eq_true rfl), (Nat.le_of_ble_eq_true rfl)⟩) hP hS hA (fun r_36 H locs w_37 hP hS => ?_)
                  obtain ⟨z_38, rfl, h_39⟩ := w_37
                  refine xr_if_ne (tgt := 87) hx hb dX12_line_82 (by decide) (by omega) (fun h_40 => ?_) (fun h_40 => ?_)
                  · refine va_new (ci := 4) (fs := [.int 0, .int 0, .int 0, .int 0, .int 0, .int 0, .int 0, .int 0, .int 0]) (C := RX4) (T := TX4) (N := 9) hx hb hts (jh hin_RX4) tyX4 tyX4_ok hown (hts (.classLink RX12 57 RX4) (jm m_1375)) (hts (.instantiable RX4 9) (jm m_1376)) (hts (.initialized RX4) (jm m_1377)) hK hP hD hS hA rfl jd_RX4 (Nat.le_of_ble_eq_true rfl) (Nat.le_of_ble_eq_true rfl) dX12_line_87 (fun q_41 H hPn hDn hS => ?_)
                    refine W.widen (k := 1) (n := 9) (Nat.le_of_ble_eq_true rfl) (Nat.le_of_ble_eq_true rfl) ?_
                    have hP := jp_init hPn
                    have hD := jd_init hDn
                    refine lv_dup hx hb dX12_line_90 rfl ?_
                    refine lv_iload_n hx hb dX12_line_91 rfl (lv_at hl 3 rfl) ?_
                    refine xq_aload hx hb dX12_line_92 (lv_at hl 1 rfl) ?_
                    refine jt_q (.ref z_3.toNat) (rv_ref (h_6).1) ?_
                    refine gx_RX12_313 (y := v z_3 14) hx hb hj hown hK hP h_6 rfl dX12_line_94 ?_
                    refine lv_iload_n hx hb dX12_line_97 rfl (lv_at hl 5 rfl) ?_
                    refine jci_v (va_runI (As := [.int (iI p1), .int (iI (v z_3 14)), .int (iI p3)]) (rest := [.ref q_41]) ⟨hx, hb, hml, hown, hts⟩ (iX4_init_1 l dC dI _ q_41 (iI p1) (iI (v z_3 14)) (iI p3)) (cwI 3 hts (jgoodI m_1387) rfl rfl rfl (hts (.initialized RX4) (jm m_1377)) (hts (.methodLink RX12 374 yX4_init) (jm m_1388)) (hts (.instanceMethod yX4_init) (jm m_1389)) rfl (by decide +kernel) ⟨(Nat.le_of_ble_eq_true rfl), (Nat.le_of_ble_eq_true rfl)⟩) ⟨jw_blind, fun U hU hW => ⟨rfl, jw_of hU hW (jp_last hPn) (hK.sub [] rfl) (jd_last hDn)⟩⟩ rfl rfl hl.1 rfl (lv_room (Nat.le_of_ble_eq_true rfl)) dX12_line_98 ⟨(Nat.le_of_ble_eq_true rfl), (Nat.le_of_ble_eq_true rfl)⟩) hPn hDn hS hA (fun u_42 H locs hPn hK2 hDn hS => ?_)
                    refine W.widen (k := 1) (n := 9) (Nat.le_of_ble_eq_true rfl) (Nat.le_of_ble_eq_true rfl) ?_
                    obtain ⟨z_43, L_44, K_45, N_46, v_47, hz9, E_48, h_49, q_50, h_51, h_52, f_53, I_54, hP9, hD9⟩ := xnew_4 hI hPn hDn ⟨by omega, by omega⟩ ⟨by omega, by omega⟩ ⟨by omega, by omega⟩
                    subst hz9
                    have hP := hP9
                    have hD := hD9
                    have F_56 := frE_frE (W := [(0, 15), (0, 16), (0, 17), (2, 5), (4, 3), (4, 4), (4, 5), (4, 6), (4, 8), (12, 13), (33, (-1)), (34, (-1)), (39, (-1)), (99, 0)]) hE0 (f_53 []) rfl hF0
                    have E_55 := xE_tr hE0 E_48
                    have h_57 := xE_ok E_48 q0
                    have h_58 := xE_ok E_48 h_6
                    have h_59 := xE_ok E_48 h_31
                    have h_60 := xE_nl E_48 h_4
                    have h_61 := xE_nl E_48 h_29
                    refine lv_astore (i := 6) (lv' := [(6, .ref z_43.toNat), (5, rv z_28), (4, rv z_3), (0, .ref p0.toNat), (1, .int (iI p1)), (2, .int (iI p2)), (3, .int (iI p3))]) hx hb dX12_line_101 hl (by decide) (by simp [rv_cat]) (fun ls hl => ?_)
                    refine lv_aload_n hx hb dX12_line_103 rfl (lv_at hl 3 rfl) ?_
                    refine lv_aload hx hb dX12_line_104 (lv_at hl 0 rfl) ?_
                    refine lv_iload_n hx hb dX12_line_106 rfl (lv_at hl 5 rfl) ?_
                    refine jcg_v (va_runV (As := [.ref z_43.toNat, .int (iI p2)]) (rest := []) ⟨hx, hb, hml, hown, hts⟩ (sX12_lean l dC dI _ L_44 cid K_45 N_46 tW sK sV v_47 p0 z_43 p2 I_54 h_57 h_49 (by omega)) (cwV 2 hts (jgoodV m_1390 m_1391 m_1392 m_873 m_1393) rfl rfl rfl (by decide +kernel) ⟨(Nat.le_of_ble_eq_true rfl), (Nat.le_of_ble_eq_true rfl)⟩) ⟨xP_blind, xrecv hK hP h_57 rfl rfl, fun U hU hW => ⟨rfl, xP_of hU hW hP hK hD hX hS (fun _ h => h) hA⟩⟩ rfl rfl hl.1 rfl (lv_room (Nat.le_of_ble_eq_true rfl)) dX12_line_107 ⟨(Nat.le_of_ble_eq_true rfl), (Nat.le_of_ble_eq_true rfl)⟩) hD hS hA (fun v_65 H locs w_63 hP hK hD hS => ?_)
                    obtain ⟨I_67, f_66⟩ := w_63
                    have hP : va_P (dC, dI) vwCl (xG L_44 cid K_45 N_46 v_65) H := hP
                    have hD : va_D A (xG L_44 cid K_45 N_46 v_65) := hD
                    refine lv_aload hx hb dX12_line_110 (lv_at hl 0 rfl) ?_
                    refine lv_iconst (v := iI 0) hx hb dX12_line_112 rfl ?_
                    refine lv_aload_n hx hb dX12_line_113 rfl (lv_at hl 3 rfl) ?_
                    refine lv_bipush (v := iI 11) hx hb dX12_line_114 rfl ?_
                    refine xq_aload hx hb dX12_line_116 (lv_at hl 2 rfl) ?_
                    refine jt_q (.ref z_3.toNat) (rv_ref (h_58).1) ?_
                    have h_68 : (-2147483648) ≤ v z_3 7 ∧ v z_3 7 ≤ 2147483647 := xf_0_7 hI h_6
                    refine gx_RX12_177 (y := v z_3 7) hx hb hj hown hK hP h_58 (((fr_use h_58 f_66 rfl)).trans (frE_use h_6 (f_53 []) rfl)) dX12_line_118 ?_
                    refine xr_add hx hb dX12_line_121 ?_
                    refine xr_kept (fun z_69 h_70 h_71 => ?_)
                    refine xq_aload hx hb dX12_line_122 (lv_at hl 2 rfl) ?_
                    refine jt_q (.ref z_3.toNat) (rv_ref (h_58).1) ?_
                    refine xq_aload hx hb dX12_line_124 (lv_at hl 2 rfl) ?_
                    refine jt_q (.ref z_3.toNat) (rv_ref (h_58).1) ?_
                    refine gx_RX12_313 (y := v z_3 14) hx hb hj hown hK hP h_58 (((fr_use h_58 f_66 rfl)).trans (frE_use h_6 (f_53 []) rfl)) dX12_line_126 ?_
                    refine jcg_i (va_runV (As := [.int (iI z_69), .ref z_3.toNat, .int (iI (v z_3 14))]) (rest := [.int (iI 0), .ref z_43.toNat]) ⟨hx, hb, hml, hown, hts⟩ (sX12_valueFor l dC dI _ L_44 cid K_45 N_46 tW sK sV v_65 p0 z_69 z_3 (v z_3 14) I_67 h_57 (by omega) h_58 (by omega)) (cwV 3 hts (jgoodV m_1093 m_1094 m_1095 m_873 m_1096) rfl rfl rfl (by decide +kernel) ⟨(Nat.le_of_ble_eq_true rfl), (Nat.le_of_ble_eq_true rfl)⟩) ⟨xP_blind, xrecv hK hP h_57 rfl rfl, fun U hU hW => ⟨rfl, xP_of hU hW hP hK hD hX hS (fun _ h => h) hA⟩⟩ rfl rfl hl.1 rfl (lv_room (Nat.le_of_ble_eq_true rfl)) dX12_line_129 ⟨(Nat.le_of_ble_eq_true rfl), (Nat.le_of_ble_eq_true rfl)⟩) hD hS hA (fun r_72 v_76 H locs w_73 hP hK hD hS => ?_)
                    obtain ⟨z_74, rfl, I_78, f_77, h_75⟩ := w_73
                    have hP : va_P (dC, dI) vwCl (xG L_44 cid K_45 N_46 v_76) H := hP
                    have hD : va_D A (xG L_44 cid K_45 N_46 v_76) := hD
                    refine va_mmax hx hb (by rw [hml]; exact hl.1.symm) hown (hj _ m_1182) (hj _ m_761) (hj _ m_762) (hj _ m_763) (Nat.le_of_ble_eq_true rfl) (Nat.le_of_ble_eq_true rfl) (Nat.le_of_ble_eq_true rfl) (Nat.le_of_ble_eq_true rfl) dX12_line_132 ?_
                    refine xm_max (by omega) (by omega) (fun z_79 h_80 => ?_)
                    refine px_RX12_382 (y := z_79) hx hb hj hown hK hP hD hS I_78 h_49 ⟨by omega, by omega⟩ dX12_line_135 (fun v_81 H locs f_82 e_83 o_84 I_85 hP hD hS => ?_)
                    refine lv_aload hx hb dX12_line_138 (lv_at hl 0 rfl) ?_
                    have h_86 : (-2147483648) ≤ v_65 z_43 3 ∧ v_65 z_43 3 ≤ 2147483647 := xf_4_3 I_67 h_49
                    refine gx_RX12_385 (y := v_65 z_43 3) hx hb hj hown hK hP h_49 (((fr_use h_49 f_82 rfl)).trans (fr_use h_49 f_77 rfl)) dX12_line_140 ?_
                    refine lv_iconst (v := iI (-1)) hx hb dX12_line_143 rfl ?_
                    have J164 : ∀ (vc164 : Int → Int → Int) (H : Heap) (locs : List Loc) (ls : Array Slot), fr K_45 [(0, 16)] vc164 v_81 → xI L_44 K_45 N_46 vc164 → va_P (dC, dI) vwCl (xG L_44 cid K_45 N_46 vc164) H → va_D A (xG L_44 cid K_45 N_46 vc164) → va_S A s.heap H locs → lv_has ls 7 [(6, .ref z_43.toNat), (5, rv z_28), (4, rv z_3), (0, .ref p0.toNat), (1, .int (iI p1)), (2, .int (iI p2)), (3, .int (iI p3))] → W p l e ({ frames := 5, cells := 1, slots := 9, locals := 139 }) s m ([.ref p0.toNat, .int (iI p1), .int (iI p2), .int (iI p3)] : List Value).toArray below meth c H locs 1 9 Q (F0 m 164 ls []) := by
                      intro vc164 H locs ls f_87 I_88 hP hD hS hl
                      refine xq_aload hx hb dX12_line_164 (lv_at hl 2 rfl) ?_
                      refine jt_q (.ref z_3.toNat) (rv_ref (h_58).1) ?_
                      refine lv_dup hx hb dX12_line_166 rfl ?_
                      have h_89 : (-2147483648) ≤ v z_3 17 ∧ v z_3 17 ≤ 2147483647 := xf_0_17 hI h_6
                      refine gx_RX12_325 (y := v z_3 17) hx hb hj hown hK hP h_58 (((fr_use h_58 f_87 rfl)).trans (((fr_use h_58 f_82 rfl)).trans (((fr_use h_58 f_77 rfl)).trans (((fr_use h_58 f_66 rfl)).trans (frE_use h_6 (f_53 []) rfl))))) dX12_line_167 ?_
                      refine lv_iconst (v := iI 1) hx hb dX12_line_170 rfl ?_
                      refine xq_aload hx hb dX12_line_171 (lv_at hl 2 rfl) ?_
                      refine jt_q (.ref z_3.toNat) (rv_ref (h_58).1) ?_
                      refine gx_RX12_313 (y := v z_3 14) hx hb hj hown hK hP h_58 (((fr_use h_58 f_87 rfl)).trans (((fr_use h_58 f_82 rfl)).trans (((fr_use h_58 f_77 rfl)).trans (((fr_use h_58 f_66 rfl)).trans (frE_use h_6 (f_53 []) rfl))))) dX12_line_173 ?_
                      refine lv_ishl hx hb dX12_line_176 ?_
                      refine xr_any (fun z_90 h_91 => ?_)
                      refine lv_ior hx hb dX12_line_177 ?_
                      refine xr_any (fun z_92 h_93 => ?_)
                      refine px_RX12_325 (y := z_92) hx hb hj hown hK hP hD hS I_88 h_58 ⟨by omega, by omega⟩ dX12_line_178 (fun v_94 H locs f_95 e_96 o_97 I_98 hP hD hS => ?_)
                      refine xq_aload hx hb dX12_line_181 (lv_at hl 2 rfl) ?_
                      refine jt_q (.ref z_3.toNat) (rv_ref (h_58).1) ?_
                      refine lv_dup hx hb dX12_line_183 rfl ?_
                      refine gx_RX12_342 (y := v z_3 15) hx hb hj hown hK hP h_58 (((fr_use h_58 f_95 rfl)).trans (((fr_use h_58 f_87 rfl)).trans (((fr_use h_58 f_82 rfl)).trans (((fr_use h_58 f_77 rfl)).trans (((fr_use h_58 f_66 rfl)).trans (frE_use h_6 (f_53 []) rfl)))))) dX12_line_184 ?_
                      refine lv_iconst (v := iI 1) hx hb dX12_line_187 rfl ?_
                      refine xr_add hx hb dX12_line_188 ?_
                      refine px_RX12_342 (y := (v z_3 15) + 1) hx hb hj hown hK hP hD hS I_98 h_58 ⟨by omega, by omega⟩ dX12_line_189 (fun v_99 H locs f_100 e_101 o_102 I_103 hP hD hS => ?_)
                      refine xq_aload hx hb dX12_line_192 (lv_at hl 1 rfl) ?_
                      refine jt_q (.ref z_28.toNat) (rv_ref (h_59).1) ?_
                      refine lv_dup hx hb dX12_line_194 rfl ?_
                      have h_104 : (-2147483648) ≤ v z_28 5 ∧ v z_28 5 ≤ 2147483647 := xf_2_5 hI h_31
                      refine gx_RX12_388 (y := v z_28 5) hx hb hj hown hK hP h_59 (((fr_use h_59 f_100 rfl)).trans (((fr_use h_59 f_95 rfl)).trans (((fr_use h_59 f_87 rfl)).trans (((fr_use h_59 f_82 rfl)).trans (((fr_use h_59 f_77 rfl)).trans (((fr_use h_59 f_66 rfl)).trans (frE_use h_31 (f_53 []) rfl))))))) dX12_line_195 ?_
                      refine lv_aload hx hb dX12_line_198 (lv_at hl 0 rfl) ?_
                      refine gx_RX12_382 (y := z_79) hx hb hj hown hK hP h_49 (((fr_use h_49 f_100 rfl)).trans (((fr_use h_49 f_95 rfl)).trans (((fr_use h_49 f_87 rfl)).trans e_83))) dX12_line_200 ?_
                      refine xr_add hx hb dX12_line_203 ?_
                      refine xr_kept (fun z_105 h_106 h_107 => ?_)
                      refine px_RX12_388 (y := z_105) hx hb hj hown hK hP hD hS I_103 h_59 ⟨by omega, by omega⟩ dX12_line_204 (fun v_108 H locs f_109 e_110 o_111 I_112 hP hD hS => ?_)
                      refine lv_aload_n hx hb dX12_line_207 rfl (lv_at hl 3 rfl) ?_
                      have h_113 : ok L_44 K_45 (v p0 12) 39 := (by have h9 := xf_12_12 I_112 h_57; rw [(((fr_use h_57 f_109 rfl)).trans (((fr_use h_57 f_100 rfl)).trans (((fr_use h_57 f_95 rfl)).trans (((fr_use h_57 f_87 rfl)).trans (((fr_use h_57 f_82 rfl)).trans (((fr_use h_57 f_77 rfl)).trans (((fr_use h_57 f_66 rfl)).trans (frE_use q0 (f_53 []) rfl))))))))] at h9; exact h9)
                      have h_114 : N_46 (v p0 12) = 300 := xn_39 I_112 h_113
                      refine gx_RX12_59 (y := v p0 12) hx hb hj hown hK hP h_57 ((xf_12_12 I_112 h_57).1) (((fr_use h_57 f_109 rfl)).trans (((fr_use h_57 f_100 rfl)).trans (((fr_use h_57 f_95 rfl)).trans (((fr_use h_57 f_87 rfl)).trans (((fr_use h_57 f_82 rfl)).trans (((fr_use h_57 f_77 rfl)).trans (((fr_use h_57 f_66 rfl)).trans (frE_use q0 (f_53 []) rfl)))))))) dX12_line_208 ?_
                      refine lv_aload_n hx hb dX12_line_211 rfl (lv_at hl 3 rfl) ?_
                      refine gx_RX12_370 (y := v p0 13) hx hb hj hown hK hP h_57 (((fr_use h_57 f_109 rfl)).trans (((fr_use h_57 f_100 rfl)).trans (((fr_use h_57 f_95 rfl)).trans (((fr_use h_57 f_87 rfl)).trans (((fr_use h_57 f_82 rfl)).trans (((fr_use h_57 f_77 rfl)).trans (((fr_use h_57 f_66 rfl)).trans (frE_use q0 (f_53 []) rfl)))))))) dX12_line_212 ?_
                      refine lv_aload hx hb dX12_line_215 (lv_at hl 0 rfl) ?_
                      refine sx_39 (y := z_43) hx hb hK hP hD hS I_112 h_113 (by omega) (by omega) (by omega) h_49 dX12_line_217 (fun v_115 H locs f_116 e_117 o_118 I_119 hP hD hS => ?_)
                      refine lv_aload_n hx hb dX12_line_218 rfl (lv_at hl 3 rfl) ?_
                      refine lv_dup hx hb dX12_line_219 rfl ?_
                      refine gx_RX12_370 (y := v p0 13) hx hb hj hown hK hP h_57 (((fr_use h_57 f_116 rfl)).trans (((fr_use h_57 f_109 rfl)).trans (((fr_use h_57 f_100 rfl)).trans (((fr_use h_57 f_95 rfl)).trans (((fr_use h_57 f_87 rfl)).trans (((fr_use h_57 f_82 rfl)).trans (((fr_use h_57 f_77 rfl)).trans (((fr_use h_57 f_66 rfl)).trans (frE_use q0 (f_53 []) rfl))))))))) dX12_line_220 ?_
                      refine lv_iconst (v := iI 1) hx hb dX12_line_223 rfl ?_
                      refine xr_add hx hb dX12_line_224 ?_
                      refine px_RX12_370 (y := (v p0 13) + 1) hx hb hj hown hK hP hD hS I_119 h_57 ⟨by omega, by omega⟩ dX12_line_225 (fun v_120 H locs f_121 e_122 o_123 I_124 hP hD hS => ?_)
                      refine lv_aload_n hx hb dX12_line_228 rfl (lv_at hl 3 rfl) ?_
                      refine gx_RX12_370 (y := (v p0 13) + 1) hx hb hj hown hK hP h_57 e_122 dX12_line_229 ?_
                      refine lv_iconst (v := iI 1) hx hb dX12_line_232 rfl ?_
                      refine xr_sub hx hb dX12_line_233 ?_
                      have F_125 := frE_fr (W := [(0, 15), (0, 16), (0, 17), (2, 5), (4, 3), (4, 4), (4, 5), (4, 6), (4, 8), (12, 13), (33, (-1)), (34, (-1)), (39, (-1)), (99, 0)]) (W1 := [(0, 15), (0, 16), (0, 17), (2, 5), (4, 3), (4, 4), (4, 5), (4, 6), (4, 8), (12, 13), (33, (-1)), (34, (-1)), (39, (-1)), (99, 0)]) E_55 (fr_tr f_121 rfl (fr_tr f_116 rfl (fr_tr f_109 rfl (fr_tr f_100 rfl (fr_tr f_95 rfl (fr_tr f_87 rfl (fr_tr f_82 rfl (fr_tr f_77 rfl (fr_tr f_66 rfl fr_rf))))))))) rfl F_56
                      rw [← hQ]
                      exact W.iret (v := iI (((v p0 13) + 1) - 1)) hx hb hr (fun t ht hW => ⟨⟨iI (((v p0 13) + 1) - 1), (L_44, K_45, N_46, v_120), rfl, ⟨((v p0 13) + 1) - 1, rfl, I_124, E_55, F_125, by omega⟩, by rw [ht]; exact hP, va_K.moved hW.alike hK, hD⟩, hS.F ht⟩) hS.2.2 dX12_line_234
                    refine xr_icmp_eq (tgt := 164) hx hb dX12_line_144 (by decide) (by omega) (by omega) (fun h_126 => ?_) (fun h_126 => ?_)
                    · exact J164 v_81 H locs ls fr_rf I_85 hP hD hS hl
                    · refine xq_aload hx hb dX12_line_147 (lv_at hl 2 rfl) ?_
                      refine jt_q (.ref z_3.toNat) (rv_ref (h_58).1) ?_
                      refine lv_dup hx hb dX12_line_149 rfl ?_
                      refine gx_RX12_345 (y := v_81 z_3 16) hx hb hj hown hK hP h_58 rfl dX12_line_150 ?_
                      refine lv_lconst hx hb dX12_line_153 rfl ?_
                      refine lv_aload hx hb dX12_line_154 (lv_at hl 0 rfl) ?_
                      refine gx_RX12_385 (y := v_65 z_43 3) hx hb hj hown hK hP h_49 (((fr_use h_49 f_82 rfl)).trans (fr_use h_49 f_77 rfl)) dX12_line_156 ?_
                      refine lv_lshl hx hb dX12_line_159 rfl ?_
                      refine xl_any (fun u_127 => ?_)
                      refine lv_lor hx hb dX12_line_160 ?_
                      refine xl_any (fun u_128 => ?_)
                      refine px_RX12_345 (y := u_128) hx hb hj hown hK hP hD hS I_85 h_58 trivial dX12_line_161 (fun v_129 H locs f_130 e_131 o_132 I_133 hP hD hS => ?_)
                      exact J164 v_129 H locs ls (fr_tr f_130 rfl fr_rf) I_133 hP hD hS hl
                  · refine lv_iconst (v := iI (-1)) hx hb dX12_line_85 rfl ?_
                    refine W.widen (k := 1) (n := 9) (Nat.le_of_ble_eq_true rfl) (Nat.le_of_ble_eq_true rfl) ?_
                    rw [← hQ]
                    exact W.iret (v := iI (-1)) hx hb hr (fun t ht hW => ⟨⟨iI (-1), (L, K, N, v), rfl, ⟨(-1), rfl, hI, hE0, hF0, by omega⟩, by rw [ht]; exact hP, va_K.moved hW.alike hK, hD⟩, hS.F ht⟩) hS.2.2 dX12_line_86
        · refine lv_iconst (v := iI (-1)) hx hb dX12_line_39 rfl ?_
          refine W.widen (k := 1) (n := 9) (Nat.le_of_ble_eq_true rfl) (Nat.le_of_ble_eq_true rfl) ?_
          rw [← hQ]
          exact W.iret (v := iI (-1)) hx hb hr (fun t ht hW => ⟨⟨iI (-1), (L, K, N, v), rfl, ⟨(-1), rfl, hI, hE0, hF0, by omega⟩, by rw [ht]; exact hP, va_K.moved hW.alike hK, hD⟩, hS.F ht⟩) hS.2.2 dX12_line_40
