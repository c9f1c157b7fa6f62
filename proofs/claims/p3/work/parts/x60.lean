set_option maxHeartbeats 2000000 in
set_option maxRecDepth 100000 in
theorem sX12_lengths (l : Launch) (dC : Nat → ClassId) (dI : Nat → Nat → Nat) (sz : Nat) (L : List Nat) (cid : Nat → ClassId) (K : Int → Nat) (N : Int → Int) (tW : Nat) (sK sV : Nat → Nat) (v : Int → Int → Int) (p0 : Int) (p1 : Int) (p2 : Int) (hI : xI L K N v) (q0 : ok L K p0 12) (q1 : rg p1) (q2 : rg p2) : Met l yX12_lengths (jk yX12_lengths cX12_lengths 3 (some .int)) ({ frames := 7, cells := 0, slots := 0, locals := 186 }) (va_Pc [.ref p0.toNat, .int (iI p1), .int (iI p2)] (xP (dC, dI) (xG L cid K N v) (xT cid) tW sK sV sz)) (va_Qi (fun (r : Int32) (u : (Int → Int → Int)) => ∃ z : Int, r = iI z ∧ (xI L K N u) ∧ (fr K [(0, 5), (3, 5), (3, 6), (6, 1), (6, 2), (6, 3), (6, 4), (6, 5), (12, 9), (33, (-1)), (34, (-1)), (37, (-1)), (52, (-1))] u v) ∧ (rg z)) (fun u t => va_P (dC, dI) vwCl (xG L cid K N u) t.heap ∧ va_K (dC, dI) vwCl (xT cid) t ∧ va_D (va_A (xG L cid K N v) sz) (xG L cid K N u)) (va_A (xG L cid K N v) sz)) 0 0 (va_A (xG L cid K N v) sz) := by
  refine Met.ofW (cc := cX12_lengths) (maxL := 3) (ret := (some .int)) (by decide) rfl ?_
  intro p e s m args below meth c s₁ B hml hv
  obtain ⟨rfl, ⟨hsz, hP, hK, hD0⟩, hX⟩ := hv
  have hx := B.exec
  have hb := B.bytes
  have hr := B.returns
  have hts := atoms_spec (ws := (jk yX12_lengths cX12_lengths 3 (some .int))) B.pre
  have hj : ∀ w ∈ jw, w.before ([.ref p0.toNat, .int (iI p1), .int (iI p2)] : List Value).toArray s = true := fun w h => hts w (jm h)
  have hown : s.vm.findClass RX12 = some m.cls := findClass_of_methodNamed B.named
  subst hsz
  have hD := hD0.self (sz := s.heap.size)
  generalize hAe : (va_A (xG L cid K N v) s.heap.size) = A at hD hX ⊢
  have hA : ∀ q : Nat, s.heap.size ≤ q → A q := fun q h => by rw [← hAe]; exact Or.inr h
  have hS : va_S A s.heap s.heap [] := va_S.rf
  have hXa := hX
  have hP : va_P (dC, dI) vwCl (xG L cid K N v) s.heap := hP
  have hl := lv_entry ([.ref p0.toNat, .int (iI p1), .int (iI p2)]) (n := 3) (Nat.le_of_ble_eq_true rfl)
  rw [lg_entry_eq]
  generalize (lg_sl ([.ref p0.toNat, .int (iI p1), .int (iI p2)]) ++ List.replicate (3 - (lg_sl ([.ref p0.toNat, .int (iI p1), .int (iI p2)])).length) Slot.unset).toArray = ls at hl ⊢
  have hl : lv_has ls 3 [(0, .ref p0.toNat), (1, .int (iI p1)), (2, .int (iI p2))] := hl
  generalize hQ : MQ below (va_Qi (fun (r : Int32) (u : (Int → Int → Int)) => ∃ z : Int, r = iI z ∧ (xI L K N u) ∧ (fr K [(0, 5), (3, 5), (3, 6), (6, 1), (6, 2), (6, 3), (6, 4), (6, 5), (12, 9), (33, (-1)), (34, (-1)), (37, (-1)), (52, (-1))] u v) ∧ (rg z)) (fun u t => va_P (dC, dI) vwCl (xG L cid K N u) t.heap ∧ va_K (dC, dI) vwCl (xT cid) t ∧ va_D A (xG L cid K N u)) A) ([.ref p0.toNat, .int (iI p1), .int (iI p2)] : List Value).toArray s 0 0 A = Q
  suffices ST : ∀ (H : Heap) (locs : List Loc), va_P (dC, dI) vwCl (xG L cid K N v) H → va_S A s.heap H locs → W p l e ({ frames := 7, cells := 0, slots := 0, locals := 186 }) s m ([.ref p0.toNat, .int (iI p1), .int (iI p2)] : List Value).toArray below meth c H locs 0 0 Q (F0 m 0 ls []) from ST _ _ hP hS
  clear hP hS
  intro H locs hP hS
  refine lv_aload_n hx hb dX12_lengths_0 rfl (lv_at hl 0 rfl) ?_
  refine lv_iload_n hx hb dX12_lengths_1 rfl (lv_at hl 1 rfl) ?_
  refine lv_iload_n hx hb dX12_lengths_2 rfl (lv_at hl 2 rfl) ?_
  refine jcg_i (va_runV (As := [.int (iI p1), .int (iI p2)]) (rest := []) ⟨hx, hb, hml, hown, hts⟩ (sX12_fit l dC dI _ L cid K N tW sK sV v p0 p1 p2 hI q0 (by omega) (by omega)) (cwV 2 hts (jgoodV m_1207 m_1208 m_1209 m_873 m_1210) rfl rfl rfl (by decide +kernel) ⟨(Nat.le_of_ble_eq_true rfl), (Nat.le_of_ble_eq_true rfl)⟩) ⟨xP_blind, xrecv hK hP q0 rfl rfl, fun U hU hW => ⟨rfl, xP_of hU hW hP hK hD hX hS (fun _ h => h) hA⟩⟩ rfl rfl hl.1 rfl (lv_room (Nat.le_of_ble_eq_true rfl)) dX12_lengths_3 ⟨(Nat.le_of_ble_eq_true rfl), (Nat.le_of_ble_eq_true rfl)⟩) hD hS hA (fun r_1 v_5 H locs w_2 hP hK hD hS => ?_)
  obtain ⟨z_3, rfl, I_7, f_6, h_4⟩ := w_2
  have hP : va_P (dC, dI) vwCl (xG L cid K N v_5) H := hP
  have hD : va_D A (xG L cid K N v_5) := hD
  refine xr_if_eq (tgt := 19) hx hb dX12_lengths_6 (by decide) (by omega) (fun h_8 => ?_) (fun h_8 => ?_)
  · refine lv_iconst (v := iI (-1)) hx hb dX12_lengths_19 rfl ?_
    rw [← hQ]
    exact W.iret (v := iI (-1)) hx hb hr (fun t ht hW => ⟨⟨iI (-1), v_5, rfl, ⟨(-1), rfl, I_7, (fr_tr f_6 rfl fr_rf), by omega⟩, by rw [ht]; exact hP, va_K.moved hW.alike hK, hD⟩, hS.F ht⟩) hS.2.2 dX12_lengths_20
  · refine lv_aload_n hx hb dX12_lengths_9 rfl (lv_at hl 0 rfl) ?_
    have h_9 : ok L K (v p0 17) 3 := xf_12_17 hI q0
    refine gx_RX12_85 (y := v p0 17) hx hb hj hown hK hP q0 ((xf_12_17 I_7 q0).1) (fr_use q0 f_6 rfl) dX12_lengths_10 ?_
    refine jc_i (va_runV (As := []) (rest := []) ⟨hx, hb, hml, hown, hts⟩ (sX3_differences l dC dI _ L cid K N tW sK sV v_5 (v p0 17) I_7 h_9) (cwV 0 hts (jgoodV m_1211 m_1212 m_1213 m_914 m_1214) rfl rfl rfl (by decide +kernel) ⟨(Nat.le_of_ble_eq_true rfl), (Nat.le_of_ble_eq_true rfl)⟩) ⟨xP_blind, xrecv hK hP h_9 rfl rfl, fun U hU hW => ⟨rfl, xP_of hU hW hP hK hD hX hS (fun _ h => h) hA⟩⟩ rfl rfl hl.1 rfl (lv_room (Nat.le_of_ble_eq_true rfl)) dX12_lengths_13 ⟨(Nat.le_of_ble_eq_true rfl), (Nat.le_of_ble_eq_true rfl)⟩) hP hS hA (fun r_10 H locs w_11 hP hS => ?_)
    obtain ⟨z_12, rfl, h_13⟩ := w_11
    refine lv_goto (tgt := 20) hx hb dX12_lengths_16 (by decide) ?_
    rw [← hQ]
    exact W.iret (v := iI z_12) hx hb hr (fun t ht hW => ⟨⟨iI z_12, v_5, rfl, ⟨z_12, rfl, I_7, (fr_tr f_6 rfl fr_rf), by omega⟩, by rw [ht]; exact hP, va_K.moved hW.alike hK, hD⟩, hS.F ht⟩) hS.2.2 dX12_lengths_20
set_option maxHeartbeats 2000000 in
set_option maxRecDepth 100000 in
theorem sX12_length (l : Launch) (dC : Nat → ClassId) (dI : Nat → Nat → Nat) (sz : Nat) (L : List Nat) (cid : Nat → ClassId) (K : Int → Nat) (N : Int → Int) (tW : Nat) (sK sV : Nat → Nat) (v : Int → Int → Int) (p0 : Int) (p1 : Int) (p2 : Int) (hI : xI L K N v) (q0 : ok L K p0 12) (q1 : rg p1) (q2 : rg p2) : Met l yX12_length (jk yX12_length cX12_length 4 (some .int)) ({ frames := 7, cells := 0, slots := 0, locals := 186 }) (va_Pc [.ref p0.toNat, .int (iI p1), .int (iI p2)] (xP (dC, dI) (xG L cid K N v) (xT cid) tW sK sV sz)) (va_Qi (fun (r : Int32) (u : (Int → Int → Int)) => ∃ z : Int, r = iI z ∧ (xI L K N u) ∧ (fr K [(0, 5), (3, 5), (3, 6), (6, 1), (6, 2), (6, 3), (6, 4), (6, 5), (12, 9), (33, (-1)), (34, (-1)), (37, (-1)), (52, (-1))] u v) ∧ (rg z)) (fun u t => va_P (dC, dI) vwCl (xG L cid K N u) t.heap ∧ va_K (dC, dI) vwCl (xT cid) t ∧ va_D (va_A (xG L cid K N v) sz) (xG L cid K N u)) (va_A (xG L cid K N v) sz)) 0 0 (va_A (xG L cid K N v) sz) := by
  refine Met.ofW (cc := cX12_length) (maxL := 4) (ret := (some .int)) (by decide) rfl ?_
  intro p e s m args below meth c s₁ B hml hv
  obtain ⟨rfl, ⟨hsz, hP, hK, hD0⟩, hX⟩ := hv
  have hx := B.exec
  have hb := B.bytes
  have hr := B.returns
  have hts := atoms_spec (ws := (jk yX12_length cX12_length 4 (some .int))) B.pre
  have hj : ∀ w ∈ jw, w.before ([.ref p0.toNat, .int (iI p1), .int (iI p2)] : List Value).toArray s = true := fun w h => hts w (jm h)
  have hown : s.vm.findClass RX12 = some m.cls := findClass_of_methodNamed B.named
  subst hsz
  have hD := hD0.self (sz := s.heap.size)
  generalize hAe : (va_A (xG L cid K N v) s.heap.size) = A at hD hX ⊢
  have hA : ∀ q : Nat, s.heap.size ≤ q → A q := fun q h => by rw [← hAe]; exact Or.inr h
  have hS : va_S A s.heap s.heap [] := va_S.rf
  have hXa := hX
  have hP : va_P (dC, dI) vwCl (xG L cid K N v) s.heap := hP
  have hl := lv_entry ([.ref p0.toNat, .int (iI p1), .int (iI p2)]) (n := 4) (Nat.le_of_ble_eq_true rfl)
  rw [lg_entry_eq]
  generalize (lg_sl ([.ref p0.toNat, .int (iI p1), .int (iI p2)]) ++ List.replicate (4 - (lg_sl ([.ref p0.toNat, .int (iI p1), .int (iI p2)])).length) Slot.unset).toArray = ls at hl ⊢
  have hl : lv_has ls 4 [(0, .ref p0.toNat), (1, .int (iI p1)), (2, .int (iI p2))] := hl
  generalize hQ : MQ below (va_Qi (fun (r : Int32) (u : (Int → Int → Int)) => ∃ z : Int, r = iI z ∧ (xI L K N u) ∧ (fr K [(0, 5), (3, 5), (3, 6), (6, 1), (6, 2), (6, 3), (6, 4), (6, 5), (12, 9), (33, (-1)), (34, (-1)), (37, (-1)), (52, (-1))] u v) ∧ (rg z)) (fun u t => va_P (dC, dI) vwCl (xG L cid K N u) t.heap ∧ va_K (dC, dI) vwCl (xT cid) t ∧ va_D A (xG L cid K N u)) A) ([.ref p0.toNat, .int (iI p1), .int (iI p2)] : List Value).toArray s 0 0 A = Q
  suffices ST : ∀ (H : Heap) (locs : List Loc), va_P (dC, dI) vwCl (xG L cid K N v) H → va_S A s.heap H locs → W p l e ({ frames := 7, cells := 0, slots := 0, locals := 186 }) s m ([.ref p0.toNat, .int (iI p1), .int (iI p2)] : List Value).toArray below meth c H locs 0 0 Q (F0 m 0 ls []) from ST _ _ hP hS
  clear hP hS
  intro H locs hP hS
  refine lv_aload_n hx hb dX12_length_0 rfl (lv_at hl 0 rfl) ?_
  refine lv_iload_n hx hb dX12_length_1 rfl (lv_at hl 1 rfl) ?_
  refine lv_iconst (v := iI 0) hx hb dX12_length_2 rfl ?_
  refine jc_q (va_runV (As := [.int (iI p1), .int (iI 0)]) (rest := []) ⟨hx, hb, hml, hown, hts⟩ (sX12_entryOfKind l dC dI _ L cid K N tW sK sV v p0 p1 0 hI q0 (by omega) (by omega)) (cwV 2 hts (jgoodV m_1027 m_1028 m_1029 m_873 m_1030) rfl rfl rfl (by decide +kernel) ⟨(Nat.le_of_ble_eq_true rfl), (Nat.le_of_ble_eq_true rfl)⟩) ⟨xP_blind, xrecv hK hP q0 rfl rfl, fun U hU hW => ⟨rfl, xP_of hU hW hP hK hD hX hS (fun _ h => h) hA⟩⟩ rfl rfl hl.1 rfl (lv_room (Nat.le_of_ble_eq_true rfl)) dX12_length_3 ⟨(Nat.le_of_ble_eq_true rfl), (Nat.le_of_ble_eq_true rfl)⟩) hP hS hA (fun r_1 H locs w_2 hP hS => ?_)
  obtain ⟨z_3, rfl, h_4⟩ := w_2
  refine jt_q (rv z_3) rfl ?_
  refine xq_astore_n (i := 3) (lv' := [(3, rv z_3), (0, .ref p0.toNat), (1, .int (iI p1)), (2, .int (iI p2))]) hx hb dX12_length_6 rfl hl (by decide) rfl (fun ls hl => ?_)
  refine xq_aload_n hx hb dX12_length_7 rfl (lv_at hl 0 rfl) ?_
  refine xq_ifnull (tgt := 32) hx hb dX12_length_8 (by decide) (fun h_5 => ?_) (fun h_5 => ?_)
  · refine lv_iconst (v := iI (-1)) hx hb dX12_length_32 rfl ?_
    rw [← hQ]
    exact W.iret (v := iI (-1)) hx hb hr (fun t ht hW => ⟨⟨iI (-1), v, rfl, ⟨(-1), rfl, hI, fr_rf, by omega⟩, by rw [ht]; exact hP, va_K.moved hW.alike hK, hD⟩, hS.F ht⟩) hS.2.2 dX12_length_33
  · have h_6 : ok L K z_3 0 := h_4.resolve_left (by omega)
    refine lv_aload_n hx hb dX12_length_11 rfl (lv_at hl 1 rfl) ?_
    refine xq_aload_n hx hb dX12_length_12 rfl (lv_at hl 0 rfl) ?_
    refine jt_q (.ref z_3.toNat) (rv_ref (h_6).1) ?_
    refine jc_i (va_runV (As := [.ref z_3.toNat]) (rest := []) ⟨hx, hb, hml, hown, hts⟩ (sX12_isAway l dC dI _ L cid K N tW sK sV v p0 z_3 hI q0 h_6) (cwV 1 hts (jgoodV m_1158 m_1159 m_1160 m_873 m_1161) rfl rfl rfl (by decide +kernel) ⟨(Nat.le_of_ble_eq_true rfl), (Nat.le_of_ble_eq_true rfl)⟩) ⟨xP_blind, xrecv hK hP q0 rfl rfl, fun U hU hW => ⟨rfl, xP_of hU hW hP hK hD hX hS (fun _ h => h) hA⟩⟩ rfl rfl hl.1 rfl (lv_room (Nat.le_of_ble_eq_true rfl)) dX12_length_13 ⟨(Nat.le_of_ble_eq_true rfl), (Nat.le_of_ble_eq_true rfl)⟩) hP hS hA (fun r_7 H locs w_8 hP hS => ?_)
    obtain ⟨z_9, rfl, h_10⟩ := w_8
    refine xr_if_ne (tgt := 32) hx hb dX12_length_16 (by decide) (by omega) (fun h_11 => ?_) (fun h_11 => ?_)
    · refine lv_iconst (v := iI (-1)) hx hb dX12_length_32 rfl ?_
      rw [← hQ]
      exact W.iret (v := iI (-1)) hx hb hr (fun t ht hW => ⟨⟨iI (-1), v, rfl, ⟨(-1), rfl, hI, fr_rf, by omega⟩, by rw [ht]; exact hP, va_K.moved hW.alike hK, hD⟩, hS.F ht⟩) hS.2.2 dX12_length_33
    · refine lv_aload_n hx hb dX12_length_19 rfl (lv_at hl 1 rfl) ?_
      refine lv_aload_n hx hb dX12_length_20 rfl (lv_at hl 1 rfl) ?_
      refine xq_aload_n hx hb dX12_length_21 rfl (lv_at hl 0 rfl) ?_
      refine jt_q (.ref z_3.toNat) (rv_ref (h_6).1) ?_
      refine jc_i (va_runV (As := [.ref z_3.toNat]) (rest := [.ref p0.toNat]) ⟨hx, hb, hml, hown, hts⟩ (sX12_standing l dC dI _ L cid K N tW sK sV v p0 z_3 hI q0 h_6) (cwV 1 hts (jgoodV m_1039 m_1040 m_1041 m_873 m_1042) rfl rfl rfl (by decide +kernel) ⟨(Nat.le_of_ble_eq_true rfl), (Nat.le_of_ble_eq_true rfl)⟩) ⟨xP_blind, xrecv hK hP q0 rfl rfl, fun U hU hW => ⟨rfl, xP_of hU hW hP hK hD hX hS (fun _ h => h) hA⟩⟩ rfl rfl hl.1 rfl (lv_room (Nat.le_of_ble_eq_true rfl)) dX12_length_22 ⟨(Nat.le_of_ble_eq_true rfl), (Nat.le_of_ble_eq_true rfl)⟩) hP hS hA (fun r_12 H locs w_13 hP hS => ?_)
      obtain ⟨z_14, rfl, h_15⟩ := w_13
      refine lv_iload_n hx hb dX12_length_25 rfl (lv_at hl 3 rfl) ?_
      refine jcg_i (va_runV (As := [.int (iI z_14), .int (iI p2)]) (rest := []) ⟨hx, hb, hml, hown, hts⟩ (sX12_fit l dC dI _ L cid K N tW sK sV v p0 z_14 p2 hI q0 (by omega) (by omega)) (cwV 2 hts (jgoodV m_1207 m_1208 m_1209 m_873 m_1210) rfl rfl rfl (by decide +kernel) ⟨(Nat.le_of_ble_eq_true rfl), (Nat.le_of_ble_eq_true rfl)⟩) ⟨xP_blind, xrecv hK hP q0 rfl rfl, fun U hU hW => ⟨rfl, xP_of hU hW hP hK hD hX hS (fun _ h => h) hA⟩⟩ rfl rfl hl.1 rfl (lv_room (Nat.le_of_ble_eq_true rfl)) dX12_length_26 ⟨(Nat.le_of_ble_eq_true rfl), (Nat.le_of_ble_eq_true rfl)⟩) hD hS hA (fun r_16 v_20 H locs w_17 hP hK hD hS => ?_)
      obtain ⟨z_18, rfl, I_22, f_21, h_19⟩ := w_17
      have hP : va_P (dC, dI) vwCl (xG L cid K N v_20) H := hP
      have hD : va_D A (xG L cid K N v_20) := hD
      refine xr_if_ne (tgt := 34) hx hb dX12_length_29 (by decide) (by omega) (fun h_23 => ?_) (fun h_23 => ?_)
      · refine lv_aload_n hx hb dX12_length_34 rfl (lv_at hl 1 rfl) ?_
        have h_24 : ok L K (v p0 17) 3 := xf_12_17 hI q0
        refine gx_RX12_85 (y := v p0 17) hx hb hj hown hK hP q0 ((xf_12_17 I_22 q0).1) (fr_use q0 f_21 rfl) dX12_length_35 ?_
        refine lv_iload_n hx hb dX12_length_38 rfl (lv_at hl 2 rfl) ?_
        refine jc_i (va_runV (As := [.int (iI p1)]) (rest := []) ⟨hx, hb, hml, hown, hts⟩ (sX3_fittedOf l dC dI _ L cid K N tW sK sV v_20 (v p0 17) p1 I_22 h_24 (by omega)) (cwV 1 hts (jgoodV m_1215 m_1216 m_1217 m_914 m_1218) rfl rfl rfl (by decide +kernel) ⟨(Nat.le_of_ble_eq_true rfl), (Nat.le_of_ble_eq_true rfl)⟩) ⟨xP_blind, xrecv hK hP h_24 rfl rfl, fun U hU hW => ⟨rfl, xP_of hU hW hP hK hD hX hS (fun _ h => h) hA⟩⟩ rfl rfl hl.1 rfl (lv_room (Nat.le_of_ble_eq_true rfl)) dX12_length_39 ⟨(Nat.le_of_ble_eq_true rfl), (Nat.le_of_ble_eq_true rfl)⟩) hP hS hA (fun r_25 H locs w_26 hP hS => ?_)
        obtain ⟨z_27, rfl, h_28⟩ := w_26
        rw [← hQ]
        exact W.iret (v := iI z_27) hx hb hr (fun t ht hW => ⟨⟨iI z_27, v_20, rfl, ⟨z_27, rfl, I_22, (fr_tr f_21 rfl fr_rf), by omega⟩, by rw [ht]; exact hP, va_K.moved hW.alike hK, hD⟩, hS.F ht⟩) hS.2.2 dX12_length_42
      · refine lv_iconst (v := iI (-1)) hx hb dX12_length_32 rfl ?_
        rw [← hQ]
        exact W.iret (v := iI (-1)) hx hb hr (fun t ht hW => ⟨⟨iI (-1), v_20, rfl, ⟨(-1), rfl, I_22, (fr_tr f_21 rfl fr_rf), by omega⟩, by rw [ht]; exact hP, va_K.moved hW.alike hK, hD⟩, hS.F ht⟩) hS.2.2 dX12_length_33
set_option maxHeartbeats 2000000 in
set_option maxRecDepth 100000 in
theorem sX12_canGive (l : Launch) (dC : Nat → ClassId) (dI : Nat → Nat → Nat) (sz : Nat) (p0 : Int) (p1 : Int) (p2 : Int) (p3 : Int) (q1 : rg p1) (q2 : rg p2) (q3 : rg p3) : Met l yX12_canGive (jk yX12_canGive cX12_canGive 6 (some .boolean)) ({ frames := 1, cells := 0, slots := 0, locals := 20 }) (va_Pc [.ref p0.toNat, .int (iI p1), .int (iI p2), .int (iI p3)] (fun U => U.heap.size = sz)) (va_Qi (fun (r : Int32) (_ : Unit) => ∃ z : Int, r = iI z ∧ (0 ≤ z ∧ z ≤ 1)) (fun _ _ => True) (va_A [] sz)) 0 0 (va_A [] sz) := by
  refine Met.ofW (cc := cX12_canGive) (maxL := 6) (ret := (some .boolean)) (by decide) rfl ?_
  intro p e s m args below meth c s₁ B hml hv
  obtain ⟨rfl, hsz⟩ := hv
  have hx := B.exec
  have hb := B.bytes
  have hr := B.returns
  have hts := atoms_spec (ws := (jk yX12_canGive cX12_canGive 6 (some .boolean))) B.pre
  have hj : ∀ w ∈ jw, w.before ([.ref p0.toNat, .int (iI p1), .int (iI p2), .int (iI p3)] : List Value).toArray s = true := fun w h => hts w (jm h)
  have hown : s.vm.findClass RX12 = some m.cls := findClass_of_methodNamed B.named
  subst hsz
  have hP : va_P (dC, dI) vwCl [] s.heap := fun k q h => by simp at h
  generalize hAe : (va_A [] s.heap.size) = A
  have hA : ∀ q : Nat, s.heap.size ≤ q → A q := fun q h => by rw [← hAe]; exact Or.inr h
  have hS : va_S A s.heap s.heap [] := va_S.rf
  have hl := lv_entry ([.ref p0.toNat, .int (iI p1), .int (iI p2), .int (iI p3)]) (n := 6) (Nat.le_of_ble_eq_true rfl)
  rw [lg_entry_eq]
  generalize (lg_sl ([.ref p0.toNat, .int (iI p1), .int (iI p2), .int (iI p3)]) ++ List.replicate (6 - (lg_sl ([.ref p0.toNat, .int (iI p1), .int (iI p2), .int (iI p3)])).length) Slot.unset).toArray = ls at hl ⊢
  have hl : lv_has ls 6 [(0, .ref p0.toNat), (1, .int (iI p1)), (2, .int (iI p2)), (3, .int (iI p3))] := hl
  generalize hQ : MQ below (va_Qi (fun (r : Int32) (_ : Unit) => ∃ z : Int, r = iI z ∧ (0 ≤ z ∧ z ≤ 1)) (fun _ _ => True) A) ([.ref p0.toNat, .int (iI p1), .int (iI p2), .int (iI p3)] : List Value).toArray s 0 0 A = Q
  suffices ST : ∀ (H : Heap) (locs : List Loc), va_P (dC, dI) vwCl [] H → va_S A s.heap H locs → W p l e ({ frames := 1, cells := 0, slots := 0, locals := 20 }) s m ([.ref p0.toNat, .int (iI p1), .int (iI p2), .int (iI p3)] : List Value).toArray below meth c H locs 0 0 Q (F0 m 0 ls []) from ST _ _ hP hS
  clear hP hS
  intro H locs hP hS
  refine lv_iload_n hx hb dX12_canGive_0 rfl (lv_at hl 1 rfl) ?_
  have J27 : ∀ (s0_27 : Int) (H : Heap) (locs : List Loc) (ls : Array Slot), (0 ≤ s0_27 ∧ s0_27 ≤ 1) → va_P (dC, dI) vwCl [] H → va_S A s.heap H locs → lv_has ls 6 [(0, .ref p0.toNat), (1, .int (iI p1)), (2, .int (iI p2)), (3, .int (iI p3))] → W p l e ({ frames := 1, cells := 0, slots := 0, locals := 20 }) s m ([.ref p0.toNat, .int (iI p1), .int (iI p2), .int (iI p3)] : List Value).toArray below meth c H locs 0 0 Q (F0 m 27 ls [.int (iI s0_27)]) := by
    intro s0_27 H locs ls h_1 hP hS hl
    refine lv_istore (i := 4) (lv' := [(4, .int (iI s0_27)), (0, .ref p0.toNat), (1, .int (iI p1)), (2, .int (iI p2)), (3, .int (iI p3))]) hx hb dX12_canGive_27 hl (by decide) rfl (fun ls hl => ?_)
    refine lv_iload_n hx hb dX12_canGive_29 rfl (lv_at hl 2 rfl) ?_
    refine jc_i (va_runS (As := [.int (iI p1)]) (rest := []) ⟨hx, hb, hml, hown, hts⟩ (sJ6_bitCount_0f7a4 l dC dI _ p1 (by omega)) (va_cwS 1 hts (jgoodS m_1219 m_891 m_882 m_892) rfl rfl rfl (by decide +kernel) ⟨(Nat.le_of_ble_eq_true rfl), (Nat.le_of_ble_eq_true rfl)⟩) ⟨jw_blind0, fun U hU hW => ⟨rfl, congrArg Array.size hU⟩⟩ rfl rfl hl.1 rfl (lv_room (Nat.le_of_ble_eq_true rfl)) dX12_canGive_30 ⟨(Nat.le_of_ble_eq_true rfl), (Nat.le_of_ble_eq_true rfl)⟩) hP hS hA (fun r_2 H locs w_3 hP hS => ?_)
    obtain ⟨z_4, rfl, h_5⟩ := w_3
    refine lv_bipush (v := iI 7) hx hb dX12_canGive_33 rfl ?_
    have J52 : ∀ (s0_52 : Int) (H : Heap) (locs : List Loc) (ls : Array Slot), (0 ≤ s0_52 ∧ s0_52 ≤ 1) → va_P (dC, dI) vwCl [] H → va_S A s.heap H locs → lv_has ls 6 [(4, .int (iI s0_27)), (0, .ref p0.toNat), (1, .int (iI p1)), (2, .int (iI p2)), (3, .int (iI p3))] → W p l e ({ frames := 1, cells := 0, slots := 0, locals := 20 }) s m ([.ref p0.toNat, .int (iI p1), .int (iI p2), .int (iI p3)] : List Value).toArray below meth c H locs 0 0 Q (F0 m 52 ls [.int (iI s0_52)]) := by
      intro s0_52 H locs ls h_6 hP hS hl
      refine lv_istore (i := 5) (lv' := [(5, .int (iI s0_52)), (4, .int (iI s0_27)), (0, .ref p0.toNat), (1, .int (iI p1)), (2, .int (iI p2)), (3, .int (iI p3))]) hx hb dX12_canGive_52 hl (by decide) rfl (fun ls hl => ?_)
      refine lv_iload hx hb dX12_canGive_54 (lv_at hl 1 rfl) ?_
      refine xr_if_eq (tgt := 80) hx hb dX12_canGive_56 (by decide) (by omega) (fun h_7 => ?_) (fun h_7 => ?_)
      · refine lv_iconst (v := iI 0) hx hb dX12_canGive_80 rfl ?_
        rw [← hQ]
        exact W.zret (v := iI 0) (ty := .boolean) hx hb hr (nb_bool (by omega) (by omega)) (fun t ht hW => ⟨⟨iI 0, (), rfl, ⟨0, rfl, by omega⟩, trivial⟩, hS.F ht⟩) hS.2.2 dX12_canGive_81
      · refine lv_iload hx hb dX12_canGive_59 (lv_at hl 0 rfl) ?_
        refine xr_if_eq (tgt := 80) hx hb dX12_canGive_61 (by decide) (by omega) (fun h_8 => ?_) (fun h_8 => ?_)
        · refine lv_iconst (v := iI 0) hx hb dX12_canGive_80 rfl ?_
          rw [← hQ]
          exact W.zret (v := iI 0) (ty := .boolean) hx hb hr (nb_bool (by omega) (by omega)) (fun t ht hW => ⟨⟨iI 0, (), rfl, ⟨0, rfl, by omega⟩, trivial⟩, hS.F ht⟩) hS.2.2 dX12_canGive_81
        · refine lv_iload_n hx hb dX12_canGive_64 rfl (lv_at hl 5 rfl) ?_
          refine lv_iconst (v := iI 1) hx hb dX12_canGive_65 rfl ?_
          refine xr_icmp_lt (tgt := 80) hx hb dX12_canGive_66 (by decide) (by omega) (by omega) (fun h_9 => ?_) (fun h_9 => ?_)
          · refine lv_iconst (v := iI 0) hx hb dX12_canGive_80 rfl ?_
            rw [← hQ]
            exact W.zret (v := iI 0) (ty := .boolean) hx hb hr (nb_bool (by omega) (by omega)) (fun t ht hW => ⟨⟨iI 0, (), rfl, ⟨0, rfl, by omega⟩, trivial⟩, hS.F ht⟩) hS.2.2 dX12_canGive_81
          · refine lv_iload_n hx hb dX12_canGive_69 rfl (lv_at hl 5 rfl) ?_
            refine lv_sipush (v := iI 400) hx hb dX12_canGive_70 rfl ?_
            refine xr_icmp_gt (tgt := 80) hx hb dX12_canGive_73 (by decide) (by omega) (by omega) (fun h_10 => ?_) (fun h_10 => ?_)
            · refine lv_iconst (v := iI 0) hx hb dX12_canGive_80 rfl ?_
              rw [← hQ]
              exact W.zret (v := iI 0) (ty := .boolean) hx hb hr (nb_bool (by omega) (by omega)) (fun t ht hW => ⟨⟨iI 0, (), rfl, ⟨0, rfl, by omega⟩, trivial⟩, hS.F ht⟩) hS.2.2 dX12_canGive_81
            · refine lv_iconst (v := iI 1) hx hb dX12_canGive_76 rfl ?_
              refine lv_goto (tgt := 81) hx hb dX12_canGive_77 (by decide) ?_
              rw [← hQ]
              exact W.zret (v := iI 1) (ty := .boolean) hx hb hr (nb_bool (by omega) (by omega)) (fun t ht hW => ⟨⟨iI 1, (), rfl, ⟨1, rfl, by omega⟩, trivial⟩, hS.F ht⟩) hS.2.2 dX12_canGive_81
    have J51 : ∀ (H : Heap) (locs : List Loc) (ls : Array Slot), va_P (dC, dI) vwCl [] H → va_S A s.heap H locs → lv_has ls 6 [(4, .int (iI s0_27)), (0, .ref p0.toNat), (1, .int (iI p1)), (2, .int (iI p2)), (3, .int (iI p3))] → W p l e ({ frames := 1, cells := 0, slots := 0, locals := 20 }) s m ([.ref p0.toNat, .int (iI p1), .int (iI p2), .int (iI p3)] : List Value).toArray below meth c H locs 0 0 Q (F0 m 51 ls []) := by
      intro H locs ls hP hS hl
      refine lv_iconst (v := iI 0) hx hb dX12_canGive_51 rfl ?_
      exact J52 0 H locs ls (by omega) hP hS hl
    refine xr_icmp_gt (tgt := 51) hx hb dX12_canGive_35 (by decide) (by omega) (by omega) (fun h_11 => ?_) (fun h_11 => ?_)
    · exact J51 H locs ls hP hS hl
    · refine lv_iload_n hx hb dX12_canGive_38 rfl (lv_at hl 3 rfl) ?_
      refine jc_i (va_runS (As := [.int (iI p2)]) (rest := []) ⟨hx, hb, hml, hown, hts⟩ (sJ6_bitCount_0f7a4 l dC dI _ p2 (by omega)) (va_cwS 1 hts (jgoodS m_1219 m_891 m_882 m_892) rfl rfl rfl (by decide +kernel) ⟨(Nat.le_of_ble_eq_true rfl), (Nat.le_of_ble_eq_true rfl)⟩) ⟨jw_blind0, fun U hU hW => ⟨rfl, congrArg Array.size hU⟩⟩ rfl rfl hl.1 rfl (lv_room (Nat.le_of_ble_eq_true rfl)) dX12_canGive_39 ⟨(Nat.le_of_ble_eq_true rfl), (Nat.le_of_ble_eq_true rfl)⟩) hP hS hA (fun r_12 H locs w_13 hP hS => ?_)
      obtain ⟨z_14, rfl, h_15⟩ := w_13
      refine lv_bipush (v := iI 6) hx hb dX12_canGive_42 rfl ?_
      refine xr_icmp_gt (tgt := 51) hx hb dX12_canGive_44 (by decide) (by omega) (by omega) (fun h_16 => ?_) (fun h_16 => ?_)
      · exact J51 H locs ls hP hS hl
      · refine lv_iconst (v := iI 1) hx hb dX12_canGive_47 rfl ?_
        refine lv_goto (tgt := 52) hx hb dX12_canGive_48 (by decide) ?_
        exact J52 1 H locs ls (by omega) hP hS hl
  have J26 : ∀ (H : Heap) (locs : List Loc) (ls : Array Slot), va_P (dC, dI) vwCl [] H → va_S A s.heap H locs → lv_has ls 6 [(0, .ref p0.toNat), (1, .int (iI p1)), (2, .int (iI p2)), (3, .int (iI p3))] → W p l e ({ frames := 1, cells := 0, slots := 0, locals := 20 }) s m ([.ref p0.toNat, .int (iI p1), .int (iI p2), .int (iI p3)] : List Value).toArray below meth c H locs 0 0 Q (F0 m 26 ls []) := by
    intro H locs ls hP hS hl
    refine lv_iconst (v := iI 0) hx hb dX12_canGive_26 rfl ?_
    exact J27 0 H locs ls (by omega) hP hS hl
  refine xr_if_le (tgt := 26) hx hb dX12_canGive_1 (by decide) (by omega) (fun h_17 => ?_) (fun h_17 => ?_)
  · exact J26 H locs ls hP hS hl
  · refine lv_iload_n hx hb dX12_canGive_4 rfl (lv_at hl 1 rfl) ?_
    refine lv_ldcw hx hb hown (hts (.constant RX12 544 1073741824) (jm m_1220)) dX12_canGive_5 ?_
    refine jt_i (iI 1073741824) (by decide) ?_
    refine xr_icmp_ge (tgt := 26) hx hb dX12_canGive_8 (by decide) (by omega) (by omega) (fun h_18 => ?_) (fun h_18 => ?_)
    · exact J26 H locs ls hP hS hl
    · refine lv_iload_n hx hb dX12_canGive_11 rfl (lv_at hl 2 rfl) ?_
      refine xr_if_le (tgt := 26) hx hb dX12_canGive_12 (by decide) (by omega) (fun h_19 => ?_) (fun h_19 => ?_)
      · exact J26 H locs ls hP hS hl
      · refine lv_iload_n hx hb dX12_canGive_15 rfl (lv_at hl 2 rfl) ?_
        refine lv_sipush (v := iI 4096) hx hb dX12_canGive_16 rfl ?_
        refine xr_icmp_ge (tgt := 26) hx hb dX12_canGive_19 (by decide) (by omega) (by omega) (fun h_20 => ?_) (fun h_20 => ?_)
        · exact J26 H locs ls hP hS hl
        · refine lv_iconst (v := iI 1) hx hb dX12_canGive_22 rfl ?_
          refine lv_goto (tgt := 27) hx hb dX12_canGive_23 (by decide) ?_
          exact J27 1 H locs ls (by omega) hP hS hl
set_option maxHeartbeats 2000000 in
set_option maxRecDepth 100000 in
theorem sX12_addHands (l : Launch) (dC : Nat → ClassId) (dI : Nat → Nat → Nat) (sz : Nat) (L : List Nat) (cid : Nat → ClassId) (K : Int → Nat) (N : Int → Int) (tW : Nat) (sK sV : Nat → Nat) (v : Int → Int → Int) (p0 : Int) (p1 : Int) (p2 : Int) (hI : xI L K N v) (q0 : ok L K p0 12) (q1 : rg p1) (q2 : rg p2) : Met l yX12_addHands (jk yX12_addHands cX12_addHands 5 (some .boolean)) ({ frames := 2, cells := 0, slots := 0, locals := 43 }) (va_Pc [.ref p0.toNat, .int (iI p1), .int (iI p2)] (xP (dC, dI) (xG L cid K N v) (xT cid) tW sK sV sz)) (va_Qi (fun (r : Int32) (u : (Int → Int → Int)) => ∃ z : Int, r = iI z ∧ (xI L K N u) ∧ (fr K [(1, 3), (1, 7), (56, (-1)), (57, (-1)), (58, (-1))] u v) ∧ (0 ≤ z ∧ z ≤ 1)) (fun u t => va_P (dC, dI) vwCl (xG L cid K N u) t.heap ∧ va_K (dC, dI) vwCl (xT cid) t ∧ va_D (va_A (xG L cid K N v) sz) (xG L cid K N u)) (va_A (xG L cid K N v) sz)) 0 0 (va_A (xG L cid K N v) sz) := by
  refine Met.ofW (cc := cX12_addHands) (maxL := 5) (ret := (some .boolean)) (by decide) rfl ?_
  intro p e s m args below meth c s₁ B hml hv
  obtain ⟨rfl, ⟨hsz, hP, hK, hD0⟩, hX⟩ := hv
  have hx := B.exec
  have hb := B.bytes
  have hr := B.returns
  have hts := atoms_spec (ws := (jk yX12_addHands cX12_addHands 5 (some .boolean))) B.pre
  have hj : ∀ w ∈ jw, w.before ([.ref p0.toNat, .int (iI p1), .int (iI p2)] : List Value).toArray s = true := fun w h => hts w (jm h)
  have hown : s.vm.findClass RX12 = some m.cls := findClass_of_methodNamed B.named
  subst hsz
  have hD := hD0.self (sz := s.heap.size)
  generalize hAe : (va_A (xG L cid K N v) s.heap.size) = A at hD hX ⊢
  have hA : ∀ q : Nat, s.heap.size ≤ q → A q := fun q h => by rw [← hAe]; exact Or.inr h
  have hS : va_S A s.heap s.heap [] := va_S.rf
  have hXa := hX
  have hP : va_P (dC, dI) vwCl (xG L cid K N v) s.heap := hP
  have hl := lv_entry ([.ref p0.toNat, .int (iI p1), .int (iI p2)]) (n := 5) (Nat.le_of_ble_eq_true rfl)
  rw [lg_entry_eq]
  generalize (lg_sl ([.ref p0.toNat, .int (iI p1), .int (iI p2)]) ++ List.replicate (5 - (lg_sl ([.ref p0.toNat, .int (iI p1), .int (iI p2)])).length) Slot.unset).toArray = ls at hl ⊢
  have hl : lv_has ls 5 [(0, .ref p0.toNat), (1, .int (iI p1)), (2, .int (iI p2))] := hl
  generalize hQ : MQ below (va_Qi (fun (r : Int32) (u : (Int → Int → Int)) => ∃ z : Int, r = iI z ∧ (xI L K N u) ∧ (fr K [(1, 3), (1, 7), (56, (-1)), (57, (-1)), (58, (-1))] u v) ∧ (0 ≤ z ∧ z ≤ 1)) (fun u t => va_P (dC, dI) vwCl (xG L cid K N u) t.heap ∧ va_K (dC, dI) vwCl (xT cid) t ∧ va_D A (xG L cid K N u)) A) ([.ref p0.toNat, .int (iI p1), .int (iI p2)] : List Value).toArray s 0 0 A = Q
  suffices ST : ∀ (H : Heap) (locs : List Loc), va_P (dC, dI) vwCl (xG L cid K N v) H → va_S A s.heap H locs → W p l e ({ frames := 2, cells := 0, slots := 0, locals := 43 }) s m ([.ref p0.toNat, .int (iI p1), .int (iI p2)] : List Value).toArray below meth c H locs 0 0 Q (F0 m 0 ls []) from ST _ _ hP hS
  clear hP hS
  intro H locs hP hS
  refine lv_aload_n hx hb dX12_addHands_0 rfl (lv_at hl 0 rfl) ?_
  have h_1 : ok L K (v p0 18) 1 := xf_12_18 hI q0
  refine gx_RX12_92 (y := v p0 18) hx hb hj hown hK hP q0 ((xf_12_18 hI q0).1) rfl dX12_addHands_1 ?_
  refine jcg_v (va_runV (As := []) (rest := []) ⟨hx, hb, hml, hown, hts⟩ (sX1_begin l dC dI _ L cid K N tW sK sV v (v p0 18) hI h_1) (cwV 0 hts (jgoodV m_1221 m_1222 m_1223 m_888 m_1224) rfl rfl rfl (by decide +kernel) ⟨(Nat.le_of_ble_eq_true rfl), (Nat.le_of_ble_eq_true rfl)⟩) ⟨xP_blind, xrecv hK hP h_1 rfl rfl, fun U hU hW => ⟨rfl, xP_of hU hW hP hK hD hX hS (fun _ h => h) hA⟩⟩ rfl rfl hl.1 rfl (lv_room (Nat.le_of_ble_eq_true rfl)) dX12_addHands_4 ⟨(Nat.le_of_ble_eq_true rfl), (Nat.le_of_ble_eq_true rfl)⟩) hD hS hA (fun v_5 H locs w_3 hP hK hD hS => ?_)
  obtain ⟨I_7, f_6⟩ := w_3
  have hP : va_P (dC, dI) vwCl (xG L cid K N v_5) H := hP
  have hD : va_D A (xG L cid K N v_5) := hD
  refine lv_iconst (v := iI 0) hx hb dX12_addHands_7 rfl ?_
  refine lv_istore_n (i := 3) (lv' := [(3, .int (iI 0)), (0, .ref p0.toNat), (1, .int (iI p1)), (2, .int (iI p2))]) hx hb dX12_addHands_8 rfl hl (by decide) rfl (fun ls hl => ?_)
  have L9 : ∀ (n9 : Nat) (a3_9 : Int) (vc9 : Int → Int → Int) (H : Heap) (locs : List Loc) (ls : Array Slot), (0 ≤ a3_9 ∧ a3_9 ≤ 2147483647) → (0 < (n9 : Int) ∧ 12 - a3_9 < (n9 : Int)) → fr K [(1, 7), (56, (-1)), (57, (-1)), (58, (-1))] vc9 v_5 → xI L K N vc9 → va_P (dC, dI) vwCl (xG L cid K N vc9) H → va_D A (xG L cid K N vc9) → va_S A s.heap H locs → lv_has ls 5 [(3, .int (iI a3_9)), (0, .ref p0.toNat), (1, .int (iI p1)), (2, .int (iI p2))] → W p l e ({ frames := 2, cells := 0, slots := 0, locals := 43 }) s m ([.ref p0.toNat, .int (iI p1), .int (iI p2)] : List Value).toArray below meth c H locs 0 0 Q (F0 m 9 ls []) := by
    intro n9
    induction n9 with
    | zero =>
      intro a3_9 vc9 H locs ls h_8 hm9 f_9 I_10 hP hD hS hl
      exfalso; omega
    | succ n9 ih9 =>
      intro a3_9 vc9 H locs ls h_11 hm9 f_12 I_13 hP hD hS hl
      refine lv_iload_n hx hb dX12_addHands_9 rfl (lv_at hl 0 rfl) ?_
      refine lv_bipush (v := iI 12) hx hb dX12_addHands_10 rfl ?_
      refine xr_icmp_ge (tgt := 61) hx hb dX12_addHands_12 (by decide) (by omega) (by omega) (fun h_14 => ?_) (fun h_14 => ?_)
      · refine lv_iconst (v := iI 1) hx hb dX12_addHands_61 rfl ?_
        rw [← hQ]
        exact W.zret (v := iI 1) (ty := .boolean) hx hb hr (nb_bool (by omega) (by omega)) (fun t ht hW => ⟨⟨iI 1, vc9, rfl, ⟨1, rfl, I_13, (fr_tr f_12 rfl (fr_tr f_6 rfl fr_rf)), by omega⟩, by rw [ht]; exact hP, va_K.moved hW.alike hK, hD⟩, hS.F ht⟩) hS.2.2 dX12_addHands_62
      · refine lv_iload_n hx hb dX12_addHands_15 rfl (lv_at hl 2 rfl) ?_
        refine lv_iload_n hx hb dX12_addHands_16 rfl (lv_at hl 0 rfl) ?_
        refine lv_ishr hx hb dX12_addHands_17 ?_
        refine xr_any (fun z_15 h_16 => ?_)
        refine lv_iconst (v := iI 1) hx hb dX12_addHands_18 rfl ?_
        refine xr_andR hx hb (by omega) (by omega) dX12_addHands_19 (fun z_17 h_18 => ?_)
        have J55 : ∀ (vc55 : Int → Int → Int) (H : Heap) (locs : List Loc) (ls : Array Slot), fr K [(1, 7), (56, (-1)), (57, (-1)), (58, (-1))] vc55 vc9 → xI L K N vc55 → va_P (dC, dI) vwCl (xG L cid K N vc55) H → va_D A (xG L cid K N vc55) → va_S A s.heap H locs → lv_has ls 5 [(3, .int (iI a3_9)), (0, .ref p0.toNat), (1, .int (iI p1)), (2, .int (iI p2))] → W p l e ({ frames := 2, cells := 0, slots := 0, locals := 43 }) s m ([.ref p0.toNat, .int (iI p1), .int (iI p2)] : List Value).toArray below meth c H locs 0 0 Q (F0 m 55 ls []) := by
          intro vc55 H locs ls f_19 I_20 hP hD hS hl
          refine lv_iinc (v := iI (a3_9 + 1)) (lv' := [(3, .int (iI (a3_9 + 1))), (0, .ref p0.toNat), (1, .int (iI p1)), (2, .int (iI p2))]) hx hb dX12_addHands_55 hl (k := 0) rfl (iI_add _ _) (by decide) rfl (fun ls hl => ?_)
          refine lv_goto (tgt := 9) hx hb dX12_addHands_58 (by decide) ?_
          exact ih9 (a3_9 + 1) vc55 H locs ls (by omega) (by omega) (fr_tr f_19 rfl (fr_tr f_12 rfl fr_rf)) I_20 hP hD hS hl
        refine xr_if_ne (tgt := 26) hx hb dX12_addHands_20 (by decide) (by omega) (fun h_21 => ?_) (fun h_21 => ?_)
        · refine lv_aload_n hx hb dX12_addHands_26 rfl (lv_at hl 1 rfl) ?_
          refine lv_iload_n hx hb dX12_addHands_27 rfl (lv_at hl 0 rfl) ?_
          refine jc_q (va_runV (As := [.int (iI a3_9)]) (rest := []) ⟨hx, hb, hml, hown, hts⟩ (sX12_livingHandAt l dC dI _ L cid K N tW sK sV vc9 p0 a3_9 I_13 q0 (by omega)) (cwV 1 hts (jgoodV m_1089 m_1090 m_1091 m_873 m_1092) rfl rfl rfl (by decide +kernel) ⟨(Nat.le_of_ble_eq_true rfl), (Nat.le_of_ble_eq_true rfl)⟩) ⟨xP_blind, xrecv hK hP q0 rfl rfl, fun U hU hW => ⟨rfl, xP_of hU hW hP hK hD hX hS (fun _ h => h) hA⟩⟩ rfl rfl hl.1 rfl (lv_room (Nat.le_of_ble_eq_true rfl)) dX12_addHands_28 ⟨(Nat.le_of_ble_eq_true rfl), (Nat.le_of_ble_eq_true rfl)⟩) hP hS hA (fun r_22 H locs w_23 hP hS => ?_)
          obtain ⟨z_24, rfl, h_25⟩ := w_23
          refine jt_q (rv z_24) rfl ?_
          refine xq_astore (i := 4) (lv' := [(4, rv z_24), (3, .int (iI a3_9)), (0, .ref p0.toNat), (1, .int (iI p1)), (2, .int (iI p2))]) hx hb dX12_addHands_31 hl (by decide) rfl (fun ls hl => ?_)
          refine xq_aload hx hb dX12_addHands_33 (lv_at hl 0 rfl) ?_
          refine xq_ifnonnull (tgt := 40) hx hb dX12_addHands_35 (by decide) (fun h_26 => ?_) (fun h_26 => ?_)
          · have h_27 : ok L K z_24 2 := h_25.resolve_left (by omega)
            refine lv_aload_n hx hb dX12_addHands_40 rfl (lv_at hl 2 rfl) ?_
            refine gx_RX12_92 (y := v p0 18) hx hb hj hown hK hP q0 ((xf_12_18 I_13 q0).1) (((fr_use q0 f_12 rfl)).trans (fr_use q0 f_6 rfl)) dX12_addHands_41 ?_
            refine lv_iload_n hx hb dX12_addHands_44 rfl (lv_at hl 1 rfl) ?_
            refine xq_aload hx hb dX12_addHands_45 (lv_at hl 0 rfl) ?_
            refine jt_q (.ref z_24.toNat) (rv_ref (h_27).1) ?_
            have h_28 : (-2147483648) ≤ v z_24 1 ∧ v z_24 1 ≤ 2147483647 := xf_2_1 hI h_27
            refine gx_RX12_358 (y := v z_24 1) hx hb hj hown hK hP h_27 (((fr_use h_27 f_12 rfl)).trans (fr_use h_27 f_6 rfl)) dX12_addHands_47 ?_
            refine lv_iload_n hx hb dX12_addHands_50 rfl (lv_at hl 4 rfl) ?_
            refine xr_mul hx hb dX12_addHands_51 ?_
            refine xr_kept (fun z_29 h_30 h_31 => ?_)
            clear h_31
            refine jcg_v (va_runV (As := [.int (iI a3_9), .int (iI z_29)]) (rest := []) ⟨hx, hb, hml, hown, hts⟩ (sX1_addHand l dC dI _ L cid K N tW sK sV vc9 (v p0 18) a3_9 z_29 I_13 h_1 (by omega) (by omega)) (cwV 2 hts (jgoodV m_1225 m_1226 m_1227 m_888 m_1228) rfl rfl rfl (by decide +kernel) ⟨(Nat.le_of_ble_eq_true rfl), (Nat.le_of_ble_eq_true rfl)⟩) ⟨xP_blind, xrecv hK hP h_1 rfl rfl, fun U hU hW => ⟨rfl, xP_of hU hW hP hK hD hX hS (fun _ h => h) hA⟩⟩ rfl rfl hl.1 rfl (lv_room (Nat.le_of_ble_eq_true rfl)) dX12_addHands_52 ⟨(Nat.le_of_ble_eq_true rfl), (Nat.le_of_ble_eq_true rfl)⟩) hD hS hA (fun v_35 H locs w_33 hP hK hD hS => ?_)
            obtain ⟨I_37, f_36⟩ := w_33
            have hP : va_P (dC, dI) vwCl (xG L cid K N v_35) H := hP
            have hD : va_D A (xG L cid K N v_35) := hD
            exact J55 v_35 H locs ls (fr_tr f_36 rfl fr_rf) I_37 hP hD hS (lv_sub hl [1, 2, 3, 4] rfl)
          · refine lv_iconst (v := iI 0) hx hb dX12_addHands_38 rfl ?_
            rw [← hQ]
            exact W.zret (v := iI 0) (ty := .boolean) hx hb hr (nb_bool (by omega) (by omega)) (fun t ht hW => ⟨⟨iI 0, vc9, rfl, ⟨0, rfl, I_13, (fr_tr f_12 rfl (fr_tr f_6 rfl fr_rf)), by omega⟩, by rw [ht]; exact hP, va_K.moved hW.alike hK, hD⟩, hS.F ht⟩) hS.2.2 dX12_addHands_39
        · refine lv_goto (tgt := 55) hx hb dX12_addHands_23 (by decide) ?_
          exact J55 vc9 H locs ls fr_rf I_13 hP hD hS hl
  exact L9 (((12 - 0 : Int)).toNat + 1) 0 v_5 H locs ls (by omega) (by omega) fr_rf I_7 hP hD hS hl
set_option maxHeartbeats 2000000 in
set_option maxRecDepth 100000 in
theorem sX12_addArticles (l : Launch) (dC : Nat → ClassId) (dI : Nat → Nat → Nat) (sz : Nat) (L : List Nat) (cid : Nat → ClassId) (K : Int → Nat) (N : Int → Int) (tW : Nat) (sK sV : Nat → Nat) (v : Int → Int → Int) (p0 : Int) (p1 : Int) (hI : xI L K N v) (q0 : ok L K p0 12) (q1 : rg p1) : Met l yX12_addArticles (jk yX12_addArticles cX12_addArticles 5 (some .boolean)) ({ frames := 6, cells := 0, slots := 0, locals := 162 }) (va_Pc [.ref p0.toNat, .int (iI p1)] (xP (dC, dI) (xG L cid K N v) (xT cid) tW sK sV sz)) (va_Qi (fun (r : Int32) (u : (Int → Int → Int)) => ∃ z : Int, r = iI z ∧ (xI L K N u) ∧ (fr K [(1, 3), (33, (-1)), (34, (-1)), (53, (-1)), (54, (-1)), (55, (-1)), (58, (-1))] u v) ∧ (0 ≤ z ∧ z ≤ 1)) (fun u t => va_P (dC, dI) vwCl (xG L cid K N u) t.heap ∧ va_K (dC, dI) vwCl (xT cid) t ∧ va_D (va_A (xG L cid K N v) sz) (xG L cid K N u)) (va_A (xG L cid K N v) sz)) 0 0 (va_A (xG L cid K N v) sz) := by
  refine Met.ofW (cc := cX12_addArticles) (maxL := 5) (ret := (some .boolean)) (by decide) rfl ?_
  intro p e s m args below meth c s₁ B hml hv
  obtain ⟨rfl, ⟨hsz, hP, hK, hD0⟩, hX⟩ := hv
  have hx := B.exec
  have hb := B.bytes
  have hr := B.returns
  have hts := atoms_spec (ws := (jk yX12_addArticles cX12_addArticles 5 (some .boolean))) B.pre
  have hj : ∀ w ∈ jw, w.before ([.ref p0.toNat, .int (iI p1)] : List Value).toArray s = true := fun w h => hts w (jm h)
  have hown : s.vm.findClass RX12 = some m.cls := findClass_of_methodNamed B.named
  subst hsz
  have hD := hD0.self (sz := s.heap.size)
  generalize hAe : (va_A (xG L cid K N v) s.heap.size) = A at hD hX ⊢
  have hA : ∀ q : Nat, s.heap.size ≤ q → A q := fun q h => by rw [← hAe]; exact Or.inr h
  have hS : va_S A s.heap s.heap [] := va_S.rf
  have hXa := hX
  have hP : va_P (dC, dI) vwCl (xG L cid K N v) s.heap := hP
  have hl := lv_entry ([.ref p0.toNat, .int (iI p1)]) (n := 5) (Nat.le_of_ble_eq_true rfl)
  rw [lg_entry_eq]
  generalize (lg_sl ([.ref p0.toNat, .int (iI p1)]) ++ List.replicate (5 - (lg_sl ([.ref p0.toNat, .int (iI p1)])).length) Slot.unset).toArray = ls at hl ⊢
  have hl : lv_has ls 5 [(0, .ref p0.toNat), (1, .int (iI p1))] := hl
  generalize hQ : MQ below (va_Qi (fun (r : Int32) (u : (Int → Int → Int)) => ∃ z : Int, r = iI z ∧ (xI L K N u) ∧ (fr K [(1, 3), (33, (-1)), (34, (-1)), (53, (-1)), (54, (-1)), (55, (-1)), (58, (-1))] u v) ∧ (0 ≤ z ∧ z ≤ 1)) (fun u t => va_P (dC, dI) vwCl (xG L cid K N u) t.heap ∧ va_K (dC, dI) vwCl (xT cid) t ∧ va_D A (xG L cid K N u)) A) ([.ref p0.toNat, .int (iI p1)] : List Value).toArray s 0 0 A = Q
  suffices ST : ∀ (H : Heap) (locs : List Loc), va_P (dC, dI) vwCl (xG L cid K N v) H → va_S A s.heap H locs → W p l e ({ frames := 6, cells := 0, slots := 0, locals := 162 }) s m ([.ref p0.toNat, .int (iI p1)] : List Value).toArray below meth c H locs 0 0 Q (F0 m 0 ls []) from ST _ _ hP hS
  clear hP hS
  intro H locs hP hS
  refine lv_iconst (v := iI 0) hx hb dX12_addArticles_0 rfl ?_
  refine lv_istore_n (i := 2) (lv' := [(2, .int (iI 0)), (0, .ref p0.toNat), (1, .int (iI p1))]) hx hb dX12_addArticles_1 rfl hl (by decide) rfl (fun ls hl => ?_)
  have L2 : ∀ (n2 : Nat) (a2_2 : Int) (vc2 : Int → Int → Int) (H : Heap) (locs : List Loc) (ls : Array Slot), (0 ≤ a2_2 ∧ a2_2 ≤ 2147483647) → (0 < (n2 : Int) ∧ 30 - a2_2 < (n2 : Int)) → fr K [(1, 3), (33, (-1)), (34, (-1)), (53, (-1)), (54, (-1)), (55, (-1)), (58, (-1))] vc2 v → xI L K N vc2 → va_P (dC, dI) vwCl (xG L cid K N vc2) H → va_D A (xG L cid K N vc2) → va_S A s.heap H locs → lv_has ls 5 [(2, .int (iI a2_2)), (0, .ref p0.toNat), (1, .int (iI p1))] → W p l e ({ frames := 6, cells := 0, slots := 0, locals := 162 }) s m ([.ref p0.toNat, .int (iI p1)] : List Value).toArray below meth c H locs 0 0 Q (F0 m 2 ls []) := by
    intro n2
    induction n2 with
    | zero =>
      intro a2_2 vc2 H locs ls h_1 hm2 f_2 I_3 hP hD hS hl
      exfalso; omega
    | succ n2 ih2 =>
      intro a2_2 vc2 H locs ls h_4 hm2 f_5 I_6 hP hD hS hl
      refine lv_iload_n hx hb dX12_addArticles_2 rfl (lv_at hl 0 rfl) ?_
      refine lv_bipush (v := iI 30) hx hb dX12_addArticles_3 rfl ?_
      refine xr_icmp_ge (tgt := 136) hx hb dX12_addArticles_5 (by decide) (by omega) (by omega) (fun h_7 => ?_) (fun h_7 => ?_)
      · refine lv_iconst (v := iI 1) hx hb dX12_addArticles_136 rfl ?_
        rw [← hQ]
        exact W.zret (v := iI 1) (ty := .boolean) hx hb hr (nb_bool (by omega) (by omega)) (fun t ht hW => ⟨⟨iI 1, vc2, rfl, ⟨1, rfl, I_6, (fr_tr f_5 rfl fr_rf), by omega⟩, by rw [ht]; exact hP, va_K.moved hW.alike hK, hD⟩, hS.F ht⟩) hS.2.2 dX12_addArticles_137
      · refine lv_iload_n hx hb dX12_addArticles_8 rfl (lv_at hl 2 rfl) ?_
        refine lv_iload_n hx hb dX12_addArticles_9 rfl (lv_at hl 0 rfl) ?_
        refine lv_ishr hx hb dX12_addArticles_10 ?_
        refine xr_any (fun z_8 h_9 => ?_)
        refine lv_iconst (v := iI 1) hx hb dX12_addArticles_11 rfl ?_
        refine xr_andR hx hb (by omega) (by omega) dX12_addArticles_12 (fun z_10 h_11 => ?_)
        have J130 : ∀ (vc130 : Int → Int → Int) (H : Heap) (locs : List Loc) (ls : Array Slot), fr K [(1, 3), (33, (-1)), (34, (-1)), (53, (-1)), (54, (-1)), (55, (-1)), (58, (-1))] vc130 vc2 → xI L K N vc130 → va_P (dC, dI) vwCl (xG L cid K N vc130) H → va_D A (xG L cid K N vc130) → va_S A s.heap H locs → lv_has ls 5 [(2, .int (iI a2_2)), (0, .ref p0.toNat), (1, .int (iI p1))] → W p l e ({ frames := 6, cells := 0, slots := 0, locals := 162 }) s m ([.ref p0.toNat, .int (iI p1)] : List Value).toArray below meth c H locs 0 0 Q (F0 m 130 ls []) := by
          intro vc130 H locs ls f_12 I_13 hP hD hS hl
          refine lv_iinc (v := iI (a2_2 + 1)) (lv' := [(2, .int (iI (a2_2 + 1))), (0, .ref p0.toNat), (1, .int (iI p1))]) hx hb dX12_addArticles_130 hl (k := 0) rfl (iI_add _ _) (by decide) rfl (fun ls hl => ?_)
          refine lv_goto (tgt := 2) hx hb dX12_addArticles_133 (by decide) ?_
          exact ih2 (a2_2 + 1) vc130 H locs ls (by omega) (by omega) (fr_tr f_12 rfl (fr_tr f_5 rfl fr_rf)) I_13 hP hD hS hl
        refine xr_if_ne (tgt := 19) hx hb dX12_addArticles_13 (by decide) (by omega) (fun h_14 => ?_) (fun h_14 => ?_)
        · refine lv_aload_n hx hb dX12_addArticles_19 rfl (lv_at hl 1 rfl) ?_
          refine lv_iload_n hx hb dX12_addArticles_20 rfl (lv_at hl 0 rfl) ?_
          refine lv_iconst (v := iI 0) hx hb dX12_addArticles_21 rfl ?_
          refine jc_q (va_runV (As := [.int (iI a2_2), .int (iI 0)]) (rest := []) ⟨hx, hb, hml, hown, hts⟩ (sX12_entryOfKind l dC dI _ L cid K N tW sK sV vc2 p0 a2_2 0 I_6 q0 (by omega) (by omega)) (cwV 2 hts (jgoodV m_1027 m_1028 m_1029 m_873 m_1030) rfl rfl rfl (by decide +kernel) ⟨(Nat.le_of_ble_eq_true rfl), (Nat.le_of_ble_eq_true rfl)⟩) ⟨xP_blind, xrecv hK hP q0 rfl rfl, fun U hU hW => ⟨rfl, xP_of hU hW hP hK hD hX hS (fun _ h => h) hA⟩⟩ rfl rfl hl.1 rfl (lv_room (Nat.le_of_ble_eq_true rfl)) dX12_addArticles_22 ⟨(Nat.le_of_ble_eq_true rfl), (Nat.le_of_ble_eq_true rfl)⟩) hP hS hA (fun r_15 H locs w_16 hP hS => ?_)
          obtain ⟨z_17, rfl, h_18⟩ := w_16
          refine jt_q (rv z_17) rfl ?_
          refine xq_astore_n (i := 3) (lv' := [(3, rv z_17), (2, .int (iI a2_2)), (0, .ref p0.toNat), (1, .int (iI p1))]) hx hb dX12_addArticles_25 rfl hl (by decide) rfl (fun ls hl => ?_)
          refine xq_aload_n hx hb dX12_addArticles_26 rfl (lv_at hl 0 rfl) ?_
          refine xq_ifnull (tgt := 64) hx hb dX12_addArticles_27 (by decide) (fun h_19 => ?_) (fun h_19 => ?_)
          · refine lv_iconst (v := iI 0) hx hb dX12_addArticles_64 rfl ?_
            rw [← hQ]
            exact W.zret (v := iI 0) (ty := .boolean) hx hb hr (nb_bool (by omega) (by omega)) (fun t ht hW => ⟨⟨iI 0, vc2, rfl, ⟨0, rfl, I_6, (fr_tr f_5 rfl fr_rf), by omega⟩, by rw [ht]; exact hP, va_K.moved hW.alike hK, hD⟩, hS.F ht⟩) hS.2.2 dX12_addArticles_65
          · have h_20 : ok L K z_17 0 := h_18.resolve_left (by omega)
            refine xq_aload_n hx hb dX12_addArticles_30 rfl (lv_at hl 0 rfl) ?_
            refine jt_q (.ref z_17.toNat) (rv_ref (h_20).1) ?_
            refine jc_i (va_runV (As := []) (rest := []) ⟨hx, hb, hml, hown, hts⟩ (sX0_isDone l dC dI _ L cid K N tW sK sV vc2 z_17 I_6 h_20) (cwV 0 hts (jgoodV m_1097 m_1098 m_1099 m_666 m_1100) rfl rfl rfl (by decide +kernel) ⟨(Nat.le_of_ble_eq_true rfl), (Nat.le_of_ble_eq_true rfl)⟩) ⟨xP_blind, xrecv hK hP h_20 rfl rfl, fun U hU hW => ⟨rfl, xP_of hU hW hP hK hD hX hS (fun _ h => h) hA⟩⟩ rfl rfl hl.1 rfl (lv_room (Nat.le_of_ble_eq_true rfl)) dX12_addArticles_31 ⟨(Nat.le_of_ble_eq_true rfl), (Nat.le_of_ble_eq_true rfl)⟩) hP hS hA (fun r_21 H locs w_22 hP hS => ?_)
            obtain ⟨z_23, rfl, h_24, h_25⟩ := w_22
            have b_26 : vc2 z_17 15 = v z_17 15 := (fr_use h_20 f_5 rfl)
            have h_27 : 0 ≤ v z_17 15 ∧ v z_17 15 ≤ 200 := xf_0_15 hI h_20
            have b_28 : vc2 z_17 9 = v z_17 9 := (fr_use h_20 f_5 rfl)
            have h_29 : 0 ≤ v z_17 9 ∧ v z_17 9 ≤ 200 := xf_0_9 hI h_20
            refine xr_if_ne (tgt := 64) hx hb dX12_addArticles_34 (by decide) (by omega) (fun h_30 => ?_) (fun h_30 => ?_)
            · refine lv_iconst (v := iI 0) hx hb dX12_addArticles_64 rfl ?_
              rw [← hQ]
              exact W.zret (v := iI 0) (ty := .boolean) hx hb hr (nb_bool (by omega) (by omega)) (fun t ht hW => ⟨⟨iI 0, vc2, rfl, ⟨0, rfl, I_6, (fr_tr f_5 rfl fr_rf), by omega⟩, by rw [ht]; exact hP, va_K.moved hW.alike hK, hD⟩, hS.F ht⟩) hS.2.2 dX12_addArticles_65
            · refine lv_aload_n hx hb dX12_addArticles_37 rfl (lv_at hl 2 rfl) ?_
              refine xq_aload_n hx hb dX12_addArticles_38 rfl (lv_at hl 0 rfl) ?_
              refine jt_q (.ref z_17.toNat) (rv_ref (h_20).1) ?_
              refine jc_i (va_runV (As := [.ref z_17.toNat]) (rest := []) ⟨hx, hb, hml, hown, hts⟩ (sX12_isStruck l dC dI _ L cid K N tW sK sV vc2 p0 z_17 I_6 q0 h_20) (cwV 1 hts (jgoodV m_1060 m_1061 m_1062 m_873 m_1063) rfl rfl rfl (by decide +kernel) ⟨(Nat.le_of_ble_eq_true rfl), (Nat.le_of_ble_eq_true rfl)⟩) ⟨xP_blind, xrecv hK hP q0 rfl rfl, fun U hU hW => ⟨rfl, xP_of hU hW hP hK hD hX hS (fun _ h => h) hA⟩⟩ rfl rfl hl.1 rfl (lv_room (Nat.le_of_ble_eq_true rfl)) dX12_addArticles_39 ⟨(Nat.le_of_ble_eq_true rfl), (Nat.le_of_ble_eq_true rfl)⟩) hP hS hA (fun r_31 H locs w_32 hP hS => ?_)
              obtain ⟨z_33, rfl, h_34⟩ := w_32
              refine xr_if_ne (tgt := 64) hx hb dX12_addArticles_42 (by decide) (by omega) (fun h_35 => ?_) (fun h_35 => ?_)
              · refine lv_iconst (v := iI 0) hx hb dX12_addArticles_64 rfl ?_
                rw [← hQ]
                exact W.zret (v := iI 0) (ty := .boolean) hx hb hr (nb_bool (by omega) (by omega)) (fun t ht hW => ⟨⟨iI 0, vc2, rfl, ⟨0, rfl, I_6, (fr_tr f_5 rfl fr_rf), by omega⟩, by rw [ht]; exact hP, va_K.moved hW.alike hK, hD⟩, hS.F ht⟩) hS.2.2 dX12_addArticles_65
              · refine xq_aload_n hx hb dX12_addArticles_45 rfl (lv_at hl 0 rfl) ?_
                refine jt_q (.ref z_17.toNat) (rv_ref (h_20).1) ?_
                have h_36 : (-2147483648) ≤ v z_17 12 ∧ v z_17 12 ≤ 2147483647 := xf_0_12 hI h_20
                refine gx_RX12_247 (y := v z_17 12) hx hb hj hown hK hP h_20 (fr_use h_20 f_5 rfl) dX12_addArticles_46 ?_
                refine lv_iconst (v := iI (-1)) hx hb dX12_addArticles_49 rfl ?_
                refine xr_icmp_ne (tgt := 64) hx hb dX12_addArticles_50 (by decide) (by omega) (by omega) (fun h_37 => ?_) (fun h_37 => ?_)
                · refine lv_iconst (v := iI 0) hx hb dX12_addArticles_64 rfl ?_
                  rw [← hQ]
                  exact W.zret (v := iI 0) (ty := .boolean) hx hb hr (nb_bool (by omega) (by omega)) (fun t ht hW => ⟨⟨iI 0, vc2, rfl, ⟨0, rfl, I_6, (fr_tr f_5 rfl fr_rf), by omega⟩, by rw [ht]; exact hP, va_K.moved hW.alike hK, hD⟩, hS.F ht⟩) hS.2.2 dX12_addArticles_65
                · refine lv_aload_n hx hb dX12_addArticles_53 rfl (lv_at hl 2 rfl) ?_
                  refine xq_aload_n hx hb dX12_addArticles_54 rfl (lv_at hl 0 rfl) ?_
                  refine jt_q (.ref z_17.toNat) (rv_ref (h_20).1) ?_
                  have h_38 : (-2147483648) ≤ v z_17 14 ∧ v z_17 14 ≤ 2147483647 := xf_0_14 hI h_20
                  refine gx_RX12_313 (y := v z_17 14) hx hb hj hown hK hP h_20 (fr_use h_20 f_5 rfl) dX12_addArticles_55 ?_
                  refine jc_q (va_runV (As := [.int (iI (v z_17 14))]) (rest := []) ⟨hx, hb, hml, hown, hts⟩ (sX12_livingHandAt l dC dI _ L cid K N tW sK sV vc2 p0 (v z_17 14) I_6 q0 (by omega)) (cwV 1 hts (jgoodV m_1089 m_1090 m_1091 m_873 m_1092) rfl rfl rfl (by decide +kernel) ⟨(Nat.le_of_ble_eq_true rfl), (Nat.le_of_ble_eq_true rfl)⟩) ⟨xP_blind, xrecv hK hP q0 rfl rfl, fun U hU hW => ⟨rfl, xP_of hU hW hP hK hD hX hS (fun _ h => h) hA⟩⟩ rfl rfl hl.1 rfl (lv_room (Nat.le_of_ble_eq_true rfl)) dX12_addArticles_58 ⟨(Nat.le_of_ble_eq_true rfl), (Nat.le_of_ble_eq_true rfl)⟩) hP hS hA (fun r_39 H locs w_40 hP hS => ?_)
                  obtain ⟨z_41, rfl, h_42⟩ := w_40
                  refine jt_q (rv z_41) rfl ?_
                  refine xq_ifnull (tgt := 66) hx hb dX12_addArticles_61 (by decide) (fun h_43 => ?_) (fun h_43 => ?_)
                  · refine lv_aload_n hx hb dX12_addArticles_66 rfl (lv_at hl 2 rfl) ?_
                    have h_44 : ok L K (v p0 18) 1 := xf_12_18 hI q0
                    refine gx_RX12_92 (y := v p0 18) hx hb hj hown hK hP q0 ((xf_12_18 I_6 q0).1) (fr_use q0 f_5 rfl) dX12_addArticles_67 ?_
                    refine lv_iload_n hx hb dX12_addArticles_70 rfl (lv_at hl 1 rfl) ?_
                    refine xq_aload_n hx hb dX12_addArticles_71 rfl (lv_at hl 0 rfl) ?_
                    refine jt_q (.ref z_17.toNat) (rv_ref (h_20).1) ?_
                    refine gx_RX12_183 (y := v z_17 9) hx hb hj hown hK hP h_20 (fr_use h_20 f_5 rfl) dX12_addArticles_72 ?_
                    refine xq_aload_n hx hb dX12_addArticles_75 rfl (lv_at hl 0 rfl) ?_
                    refine jt_q (.ref z_17.toNat) (rv_ref (h_20).1) ?_
                    refine gx_RX12_342 (y := v z_17 15) hx hb hj hown hK hP h_20 (fr_use h_20 f_5 rfl) dX12_addArticles_76 ?_
                    refine xr_sub hx hb dX12_addArticles_79 ?_
                    refine jcg_v (va_runV (As := [.int (iI a2_2), .int (iI ((v z_17 9) - (v z_17 15)))]) (rest := []) ⟨hx, hb, hml, hown, hts⟩ (sX1_addArticle l dC dI _ L cid K N tW sK sV vc2 (v p0 18) a2_2 ((v z_17 9) - (v z_17 15)) I_6 h_44 (by omega) (by omega)) (cwV 2 hts (jgoodV m_1229 m_1230 m_1231 m_888 m_1232) rfl rfl rfl (by decide +kernel) ⟨(Nat.le_of_ble_eq_true rfl), (Nat.le_of_ble_eq_true rfl)⟩) ⟨xP_blind, xrecv hK hP h_44 rfl rfl, fun U hU hW => ⟨rfl, xP_of hU hW hP hK hD hX hS (fun _ h => h) hA⟩⟩ rfl rfl hl.1 rfl (lv_room (Nat.le_of_ble_eq_true rfl)) dX12_addArticles_80 ⟨(Nat.le_of_ble_eq_true rfl), (Nat.le_of_ble_eq_true rfl)⟩) hD hS hA (fun v_48 H locs w_46 hP hK hD hS => ?_)
                    obtain ⟨I_50, f_49⟩ := w_46
                    have hP : va_P (dC, dI) vwCl (xG L cid K N v_48) H := hP
                    have hD : va_D A (xG L cid K N v_48) := hD
                    refine lv_iconst (v := iI 0) hx hb dX12_addArticles_83 rfl ?_
                    refine lv_istore (i := 4) (lv' := [(4, .int (iI 0)), (3, rv z_17), (2, .int (iI a2_2)), (0, .ref p0.toNat), (1, .int (iI p1))]) hx hb dX12_addArticles_84 hl (by decide) (by simp [rv_cat]) (fun ls hl => ?_)
                    have L86 : ∀ (n86 : Nat) (a4_86 : Int) (vc86 : Int → Int → Int) (H : Heap) (locs : List Loc) (ls : Array Slot), (0 ≤ a4_86 ∧ a4_86 ≤ 2147483647) → (0 < (n86 : Int) ∧ (v (v p0 18) 7) - a4_86 < (n86 : Int)) → fr K [(33, (-1)), (34, (-1)), (58, (-1))] vc86 v_48 → xI L K N vc86 → va_P (dC, dI) vwCl (xG L cid K N vc86) H → va_D A (xG L cid K N vc86) → va_S A s.heap H locs → lv_has ls 5 [(4, .int (iI a4_86)), (3, rv z_17), (2, .int (iI a2_2)), (0, .ref p0.toNat), (1, .int (iI p1))] → W p l e ({ frames := 6, cells := 0, slots := 0, locals := 162 }) s m ([.ref p0.toNat, .int (iI p1)] : List Value).toArray below meth c H locs 0 0 Q (F0 m 86 ls []) := by
                      intro n86
                      induction n86 with
                      | zero =>
                        intro a4_86 vc86 H locs ls h_51 hm86 f_52 I_53 hP hD hS hl
                        exfalso; omega
                      | succ n86 ih86 =>
                        intro a4_86 vc86 H locs ls h_54 hm86 f_55 I_56 hP hD hS hl
                        refine lv_iload hx hb dX12_addArticles_86 (lv_at hl 0 rfl) ?_
                        refine lv_aload_n hx hb dX12_addArticles_88 rfl (lv_at hl 3 rfl) ?_
                        refine gx_RX12_92 (y := v p0 18) hx hb hj hown hK hP q0 ((xf_12_18 I_56 q0).1) (((fr_use q0 f_55 rfl)).trans (((fr_use q0 f_49 rfl)).trans (fr_use q0 f_5 rfl))) dX12_addArticles_89 ?_
                        have h_57 : 0 ≤ v (v p0 18) 7 ∧ v (v p0 18) 7 ≤ 6 := xf_1_7 hI h_44
                        refine gx_RX12_556 (y := v (v p0 18) 7) hx hb hj hown hK hP h_44 (((fr_use h_44 f_55 rfl)).trans (((fr_use h_44 f_49 rfl)).trans (fr_use h_44 f_5 rfl))) dX12_addArticles_92 ?_
                        refine xr_icmp_ge (tgt := 130) hx hb dX12_addArticles_95 (by decide) (by omega) (by omega) (fun h_58 => ?_) (fun h_58 => ?_)
                        · exact J130 vc86 H locs ls (fr_tr f_55 rfl (fr_tr f_49 rfl fr_rf)) I_56 hP hD hS (lv_sub hl [2, 3, 4] rfl)
                        · refine lv_aload_n hx hb dX12_addArticles_98 rfl (lv_at hl 3 rfl) ?_
                          refine xq_aload_n hx hb dX12_addArticles_99 rfl (lv_at hl 1 rfl) ?_
                          refine jt_q (.ref z_17.toNat) (rv_ref (h_20).1) ?_
                          refine lv_aload_n hx hb dX12_addArticles_100 rfl (lv_at hl 3 rfl) ?_
                          refine gx_RX12_92 (y := v p0 18) hx hb hj hown hK hP q0 ((xf_12_18 I_56 q0).1) (((fr_use q0 f_55 rfl)).trans (((fr_use q0 f_49 rfl)).trans (fr_use q0 f_5 rfl))) dX12_addArticles_101 ?_
                          refine lv_iload hx hb dX12_addArticles_104 (lv_at hl 0 rfl) ?_
                          refine jc_i (va_runV (As := [.int (iI a4_86)]) (rest := [.ref z_17.toNat, .ref p0.toNat]) ⟨hx, hb, hml, hown, hts⟩ (sX1_handNumber l dC dI _ L cid K N tW sK sV vc86 (v p0 18) a4_86 I_56 h_44 (by omega)) (cwV 1 hts (jgoodV m_1233 m_899 m_900 m_888 m_901) rfl rfl rfl (by decide +kernel) ⟨(Nat.le_of_ble_eq_true rfl), (Nat.le_of_ble_eq_true rfl)⟩) ⟨xP_blind, xrecv hK hP h_44 rfl rfl, fun U hU hW => ⟨rfl, xP_of hU hW hP hK hD hX hS (fun _ h => h) hA⟩⟩ rfl rfl hl.1 rfl (lv_room (Nat.le_of_ble_eq_true rfl)) dX12_addArticles_106 ⟨(Nat.le_of_ble_eq_true rfl), (Nat.le_of_ble_eq_true rfl)⟩) hP hS hA (fun r_59 H locs w_60 hP hS => ?_)
                          obtain ⟨z_61, rfl, h_62⟩ := w_60
                          refine jcg_i (va_runV (As := [.ref z_17.toNat, .int (iI z_61)]) (rest := []) ⟨hx, hb, hml, hown, hts⟩ (sX12_mayTake l dC dI _ L cid K N tW sK sV vc86 p0 z_17 z_61 I_56 q0 h_20 (by omega)) (cwV 2 hts (jgoodV m_1101 m_1102 m_1103 m_873 m_1104) rfl rfl rfl (by decide +kernel) ⟨(Nat.le_of_ble_eq_true rfl), (Nat.le_of_ble_eq_true rfl)⟩) ⟨xP_blind, xrecv hK hP q0 rfl rfl, fun U hU hW => ⟨rfl, xP_of hU hW hP hK hD hX hS (fun _ h => h) hA⟩⟩ rfl rfl hl.1 rfl (lv_room (Nat.le_of_ble_eq_true rfl)) dX12_addArticles_109 ⟨(Nat.le_of_ble_eq_true rfl), (Nat.le_of_ble_eq_true rfl)⟩) hD hS hA (fun r_63 v_67 H locs w_64 hP hK hD hS => ?_)
                          obtain ⟨z_65, rfl, I_69, f_68, h_66⟩ := w_64
                          have hP : va_P (dC, dI) vwCl (xG L cid K N v_67) H := hP
                          have hD : va_D A (xG L cid K N v_67) := hD
                          have J124 : ∀ (vc124 : Int → Int → Int) (H : Heap) (locs : List Loc) (ls : Array Slot), fr K [(58, (-1))] vc124 v_67 → xI L K N vc124 → va_P (dC, dI) vwCl (xG L cid K N vc124) H → va_D A (xG L cid K N vc124) → va_S A s.heap H locs → lv_has ls 5 [(4, .int (iI a4_86)), (3, rv z_17), (2, .int (iI a2_2)), (0, .ref p0.toNat), (1, .int (iI p1))] → W p l e ({ frames := 6, cells := 0, slots := 0, locals := 162 }) s m ([.ref p0.toNat, .int (iI p1)] : List Value).toArray below meth c H locs 0 0 Q (F0 m 124 ls []) := by
                            intro vc124 H locs ls f_70 I_71 hP hD hS hl
                            refine lv_iinc (v := iI (a4_86 + 1)) (lv' := [(4, .int (iI (a4_86 + 1))), (3, rv z_17), (2, .int (iI a2_2)), (0, .ref p0.toNat), (1, .int (iI p1))]) hx hb dX12_addArticles_124 hl (k := 0) rfl (iI_add _ _) (by decide) (by simp [rv_cat]) (fun ls hl => ?_)
                            refine lv_goto (tgt := 86) hx hb dX12_addArticles_127 (by decide) ?_
                            exact ih86 (a4_86 + 1) vc124 H locs ls (by omega) (by omega) (fr_tr f_70 rfl (fr_tr f_68 rfl (fr_tr f_55 rfl fr_rf))) I_71 hP hD hS hl
                          refine xr_if_eq (tgt := 124) hx hb dX12_addArticles_112 (by decide) (by omega) (fun h_72 => ?_) (fun h_72 => ?_)
                          · exact J124 v_67 H locs ls fr_rf I_69 hP hD hS hl
                          · refine lv_aload_n hx hb dX12_addArticles_115 rfl (lv_at hl 3 rfl) ?_
                            refine gx_RX12_92 (y := v p0 18) hx hb hj hown hK hP q0 ((xf_12_18 I_69 q0).1) (((fr_use q0 f_68 rfl)).trans (((fr_use q0 f_55 rfl)).trans (((fr_use q0 f_49 rfl)).trans (fr_use q0 f_5 rfl)))) dX12_addArticles_116 ?_
                            refine lv_iload hx hb dX12_addArticles_119 (lv_at hl 0 rfl) ?_
                            refine jcg_v (va_runV (As := [.int (iI a4_86)]) (rest := []) ⟨hx, hb, hml, hown, hts⟩ (sX1_allow l dC dI _ L cid K N tW sK sV v_67 (v p0 18) a4_86 I_69 h_44 (by omega)) (cwV 1 hts (jgoodV m_1234 m_1235 m_1236 m_888 m_1237) rfl rfl rfl (by decide +kernel) ⟨(Nat.le_of_ble_eq_true rfl), (Nat.le_of_ble_eq_true rfl)⟩) ⟨xP_blind, xrecv hK hP h_44 rfl rfl, fun U hU hW => ⟨rfl, xP_of hU hW hP hK hD hX hS (fun _ h => h) hA⟩⟩ rfl rfl hl.1 rfl (lv_room (Nat.le_of_ble_eq_true rfl)) dX12_addArticles_121 ⟨(Nat.le_of_ble_eq_true rfl), (Nat.le_of_ble_eq_true rfl)⟩) hD hS hA (fun v_76 H locs w_74 hP hK hD hS => ?_)
                            obtain ⟨I_78, f_77⟩ := w_74
                            have hP : va_P (dC, dI) vwCl (xG L cid K N v_76) H := hP
                            have hD : va_D A (xG L cid K N v_76) := hD
                            exact J124 v_76 H locs ls (fr_tr f_77 rfl fr_rf) I_78 hP hD hS hl
                    exact L86 ((((v (v p0 18) 7) - 0 : Int)).toNat + 1) 0 v_48 H locs ls (by omega) (by omega) fr_rf I_50 hP hD hS hl
                  · have h_79 : ok L K z_41 2 := h_42.resolve_left (by omega)
                    refine lv_iconst (v := iI 0) hx hb dX12_addArticles_64 rfl ?_
                    rw [← hQ]
                    exact W.zret (v := iI 0) (ty := .boolean) hx hb hr (nb_bool (by omega) (by omega)) (fun t ht hW => ⟨⟨iI 0, vc2, rfl, ⟨0, rfl, I_6, (fr_tr f_5 rfl fr_rf), by omega⟩, by rw [ht]; exact hP, va_K.moved hW.alike hK, hD⟩, hS.F ht⟩) hS.2.2 dX12_addArticles_65
        · refine lv_goto (tgt := 130) hx hb dX12_addArticles_16 (by decide) ?_
          exact J130 vc2 H locs ls fr_rf I_6 hP hD hS hl
  exact L2 (((30 - 0 : Int)).toNat + 1) 0 v H locs ls (by omega) (by omega) fr_rf hI hP hD hS hl
