set_option maxHeartbeats 2000000 in
set_option maxRecDepth 100000 in
theorem sX12_isSetLine (l : Launch) (dC : Nat → ClassId) (dI : Nat → Nat → Nat) (sz : Nat) (L : List Nat) (cid : Nat → ClassId) (K : Int → Nat) (N : Int → Int) (tW : Nat) (sK sV : Nat → Nat) (v : Int → Int → Int) (p0 : Int) (p1 : Int) (hI : xI L K N v) (q0 : ok L K p0 12) (q1 : ok L K p1 4) : Met l yX12_isSetLine (jk yX12_isSetLine cX12_isSetLine 3 (some .boolean)) ({ frames := 1, cells := 0, slots := 0, locals := 21 }) (va_Pc [.ref p0.toNat, .ref p1.toNat] (xP (dC, dI) (xG L cid K N v) (xT cid) tW sK sV sz)) (va_Qi (fun (r : Int32) (_ : Unit) => ∃ z : Int, r = iI z ∧ (0 ≤ z ∧ z ≤ 1)) (fun _ _ => True) (va_A [] sz)) 0 0 (va_A [] sz) := by
  refine Met.ofW (cc := cX12_isSetLine) (maxL := 3) (ret := (some .boolean)) (by decide) rfl ?_
  intro p e s m args below meth c s₁ B hml hv
  obtain ⟨rfl, ⟨hsz, hP, hK, hD0⟩, hX⟩ := hv
  have hx := B.exec
  have hb := B.bytes
  have hr := B.returns
  have hts := atoms_spec (ws := (jk yX12_isSetLine cX12_isSetLine 3 (some .boolean))) B.pre
  have hj : ∀ w ∈ jw, w.before ([.ref p0.toNat, .ref p1.toNat] : List Value).toArray s = true := fun w h => hts w (jm h)
  have hown : s.vm.findClass RX12 = some m.cls := findClass_of_methodNamed B.named
  subst hsz
  have hDw := hD0.self (sz := s.heap.size)
  have hAA : ∀ q : Nat, s.heap.size ≤ q → va_A (xG L cid K N v) s.heap.size q := fun q h => Or.inr h
  have hAw : ∀ q, va_A [] s.heap.size q → va_A (xG L cid K N v) s.heap.size q := ja_nil va_S.rf hAA
  generalize hAe : (va_A [] s.heap.size) = A at hAw ⊢
  have hA : ∀ q : Nat, s.heap.size ≤ q → A q := fun q h => by rw [← hAe]; exact Or.inr h
  have hS : va_S A s.heap s.heap [] := va_S.rf
  have hXa := hX.nar hAw
  have hP : va_P (dC, dI) vwCl (xG L cid K N v) s.heap := hP
  have hl := lv_entry ([.ref p0.toNat, .ref p1.toNat]) (n := 3) (Nat.le_of_ble_eq_true rfl)
  rw [lg_entry_eq]
  generalize (lg_sl ([.ref p0.toNat, .ref p1.toNat]) ++ List.replicate (3 - (lg_sl ([.ref p0.toNat, .ref p1.toNat])).length) Slot.unset).toArray = ls at hl ⊢
  have hl : lv_has ls 3 [(0, .ref p0.toNat), (1, .ref p1.toNat)] := hl
  generalize hQ : MQ below (va_Qi (fun (r : Int32) (_ : Unit) => ∃ z : Int, r = iI z ∧ (0 ≤ z ∧ z ≤ 1)) (fun _ _ => True) A) ([.ref p0.toNat, .ref p1.toNat] : List Value).toArray s 0 0 A = Q
  suffices ST : ∀ (H : Heap) (locs : List Loc), va_P (dC, dI) vwCl (xG L cid K N v) H → va_S A s.heap H locs → W p l e ({ frames := 1, cells := 0, slots := 0, locals := 21 }) s m ([.ref p0.toNat, .ref p1.toNat] : List Value).toArray below meth c H locs 0 0 Q (F0 m 0 ls []) from ST _ _ hP hS
  clear hP hS
  intro H locs hP hS
  refine lv_aload_n hx hb dX12_isSetLine_0 rfl (lv_at hl 0 rfl) ?_
  refine lv_aload_n hx hb dX12_isSetLine_1 rfl (lv_at hl 1 rfl) ?_
  have h_1 : (-2147483648) ≤ v p1 0 ∧ v p1 0 ≤ 2147483647 := xf_4_0 hI q1
  refine gx_RX12_422 (y := v p1 0) hx hb hj hown hK hP q1 rfl dX12_isSetLine_2 ?_
  refine jc_q (va_runV (As := [.int (iI (v p1 0))]) (rest := []) ⟨hx, hb, hml, hown, hts⟩ (sX12_entryAt l dC dI _ L cid K N tW sK sV v p0 (v p1 0) hI q0 (by omega)) (cwV 1 hts (jgoodV m_870 m_871 m_872 m_873 m_874) rfl rfl rfl (by decide +kernel) ⟨(Nat.le_of_ble_eq_true rfl), (Nat.le_of_ble_eq_true rfl)⟩) ⟨xP_blind, xrecv hK hP q0 rfl rfl, fun U hU hW => ⟨rfl, xP_of hU hW hP hK hDw hX hS hAw hAA⟩⟩ rfl rfl hl.1 rfl (lv_room (Nat.le_of_ble_eq_true rfl)) dX12_isSetLine_5 ⟨(Nat.le_of_ble_eq_true rfl), (Nat.le_of_ble_eq_true rfl)⟩) hP hS hA (fun r_2 H locs w_3 hP hS => ?_)
  obtain ⟨z_4, rfl, h_5⟩ := w_3
  refine jt_q (rv z_4) rfl ?_
  refine xq_astore_n (i := 2) (lv' := [(2, rv z_4), (0, .ref p0.toNat), (1, .ref p1.toNat)]) hx hb dX12_isSetLine_8 rfl hl (by decide) rfl (fun ls hl => ?_)
  refine xq_aload_n hx hb dX12_isSetLine_9 rfl (lv_at hl 0 rfl) ?_
  refine xq_ifnull (tgt := 25) hx hb dX12_isSetLine_10 (by decide) (fun h_6 => ?_) (fun h_6 => ?_)
  · refine lv_iconst (v := iI 0) hx hb dX12_isSetLine_25 rfl ?_
    rw [← hQ]
    exact W.zret (v := iI 0) (ty := .boolean) hx hb hr (nb_bool (by omega) (by omega)) (fun t ht hW => ⟨⟨iI 0, (), rfl, ⟨0, rfl, by omega⟩, trivial⟩, hS.F ht⟩) hS.2.2 dX12_isSetLine_26
  · have h_7 : ok L K z_4 0 := h_5.resolve_left (by omega)
    refine xq_aload_n hx hb dX12_isSetLine_13 rfl (lv_at hl 0 rfl) ?_
    refine jt_q (.ref z_4.toNat) (rv_ref (h_7).1) ?_
    have h_8 : (-2147483648) ≤ v z_4 12 ∧ v z_4 12 ≤ 2147483647 := xf_0_12 hI h_7
    refine gx_RX12_247 (y := v z_4 12) hx hb hj hown hK hP h_7 rfl dX12_isSetLine_14 ?_
    refine lv_iconst (v := iI (-1)) hx hb dX12_isSetLine_17 rfl ?_
    refine xr_icmp_eq (tgt := 25) hx hb dX12_isSetLine_18 (by decide) (by omega) (by omega) (fun h_9 => ?_) (fun h_9 => ?_)
    · refine lv_iconst (v := iI 0) hx hb dX12_isSetLine_25 rfl ?_
      rw [← hQ]
      exact W.zret (v := iI 0) (ty := .boolean) hx hb hr (nb_bool (by omega) (by omega)) (fun t ht hW => ⟨⟨iI 0, (), rfl, ⟨0, rfl, by omega⟩, trivial⟩, hS.F ht⟩) hS.2.2 dX12_isSetLine_26
    · refine lv_iconst (v := iI 1) hx hb dX12_isSetLine_21 rfl ?_
      refine lv_goto (tgt := 26) hx hb dX12_isSetLine_22 (by decide) ?_
      rw [← hQ]
      exact W.zret (v := iI 1) (ty := .boolean) hx hb hr (nb_bool (by omega) (by omega)) (fun t ht hW => ⟨⟨iI 1, (), rfl, ⟨1, rfl, by omega⟩, trivial⟩, hS.F ht⟩) hS.2.2 dX12_isSetLine_26
set_option maxHeartbeats 2000000 in
set_option maxRecDepth 100000 in
theorem sX12_mend (l : Launch) (dC : Nat → ClassId) (dI : Nat → Nat → Nat) (sz : Nat) (L : List Nat) (cid : Nat → ClassId) (K : Int → Nat) (N : Int → Int) (tW : Nat) (sK sV : Nat → Nat) (v : Int → Int → Int) (p0 : Int) (p1 : Int) (hI : xI L K N v) (q0 : ok L K p0 12) (q1 : rg p1) : Met l yX12_mend (jk yX12_mend cX12_mend 3 (some .int)) ({ frames := 2, cells := 0, slots := 0, locals := 47 }) (va_Pc [.ref p0.toNat, .int (iI p1)] (xP (dC, dI) (xG L cid K N v) (xT cid) tW sK sV sz)) (va_Qi (fun (r : Int32) (u : (Int → Int → Int)) => ∃ z : Int, r = iI z ∧ (xI L K N u) ∧ (fr K [(4, 6)] u v) ∧ (rg z)) (fun u t => va_P (dC, dI) vwCl (xG L cid K N u) t.heap ∧ va_K (dC, dI) vwCl (xT cid) t ∧ va_D (va_A (xG L cid K N v) sz) (xG L cid K N u)) (va_A (xG L cid K N v) sz)) 0 0 (va_A (xG L cid K N v) sz) := by
  refine Met.ofW (cc := cX12_mend) (maxL := 3) (ret := (some .int)) (by decide) rfl ?_
  intro p e s m args below meth c s₁ B hml hv
  obtain ⟨rfl, ⟨hsz, hP, hK, hD0⟩, hX⟩ := hv
  have hx := B.exec
  have hb := B.bytes
  have hr := B.returns
  have hts := atoms_spec (ws := (jk yX12_mend cX12_mend 3 (some .int))) B.pre
  have hj : ∀ w ∈ jw, w.before ([.ref p0.toNat, .int (iI p1)] : List Value).toArray s = true := fun w h => hts w (jm h)
  have hown : s.vm.findClass RX12 = some m.cls := findClass_of_methodNamed B.named
  subst hsz
  have hD := hD0.self (sz := s.heap.size)
  generalize hAe : (va_A (xG L cid K N v) s.heap.size) = A at hD hX ⊢
  have hA : ∀ q : Nat, s.heap.size ≤ q → A q := fun q h => by rw [← hAe]; exact Or.inr h
  have hS : va_S A s.heap s.heap [] := va_S.rf
  have hXa := hX
  have hP : va_P (dC, dI) vwCl (xG L cid K N v) s.heap := hP
  have hl := lv_entry ([.ref p0.toNat, .int (iI p1)]) (n := 3) (Nat.le_of_ble_eq_true rfl)
  rw [lg_entry_eq]
  generalize (lg_sl ([.ref p0.toNat, .int (iI p1)]) ++ List.replicate (3 - (lg_sl ([.ref p0.toNat, .int (iI p1)])).length) Slot.unset).toArray = ls at hl ⊢
  have hl : lv_has ls 3 [(0, .ref p0.toNat), (1, .int (iI p1))] := hl
  generalize hQ : MQ below (va_Qi (fun (r : Int32) (u : (Int → Int → Int)) => ∃ z : Int, r = iI z ∧ (xI L K N u) ∧ (fr K [(4, 6)] u v) ∧ (rg z)) (fun u t => va_P (dC, dI) vwCl (xG L cid K N u) t.heap ∧ va_K (dC, dI) vwCl (xT cid) t ∧ va_D A (xG L cid K N u)) A) ([.ref p0.toNat, .int (iI p1)] : List Value).toArray s 0 0 A = Q
  suffices ST : ∀ (H : Heap) (locs : List Loc), va_P (dC, dI) vwCl (xG L cid K N v) H → va_S A s.heap H locs → W p l e ({ frames := 2, cells := 0, slots := 0, locals := 47 }) s m ([.ref p0.toNat, .int (iI p1)] : List Value).toArray below meth c H locs 0 0 Q (F0 m 0 ls []) from ST _ _ hP hS
  clear hP hS
  intro H locs hP hS
  refine lv_aload_n hx hb dX12_mend_0 rfl (lv_at hl 0 rfl) ?_
  refine lv_iload_n hx hb dX12_mend_1 rfl (lv_at hl 1 rfl) ?_
  refine jc_q (va_runV (As := [.int (iI p1)]) (rest := []) ⟨hx, hb, hml, hown, hts⟩ (sX12_lineAt l dC dI _ L cid K N tW sK sV v p0 p1 hI q0 (by omega)) (cwV 1 hts (jgoodV m_1109 m_1110 m_1111 m_873 m_1112) rfl rfl rfl (by decide +kernel) ⟨(Nat.le_of_ble_eq_true rfl), (Nat.le_of_ble_eq_true rfl)⟩) ⟨xP_blind, xrecv hK hP q0 rfl rfl, fun U hU hW => ⟨rfl, xP_of hU hW hP hK hD hX hS (fun _ h => h) hA⟩⟩ rfl rfl hl.1 rfl (lv_room (Nat.le_of_ble_eq_true rfl)) dX12_mend_2 ⟨(Nat.le_of_ble_eq_true rfl), (Nat.le_of_ble_eq_true rfl)⟩) hP hS hA (fun r_1 H locs w_2 hP hS => ?_)
  obtain ⟨z_3, rfl, h_4⟩ := w_2
  refine jt_q (rv z_3) rfl ?_
  refine xq_astore_n (i := 2) (lv' := [(2, rv z_3), (0, .ref p0.toNat), (1, .int (iI p1))]) hx hb dX12_mend_5 rfl hl (by decide) rfl (fun ls hl => ?_)
  refine xq_aload_n hx hb dX12_mend_6 rfl (lv_at hl 0 rfl) ?_
  refine xq_ifnull (tgt := 26) hx hb dX12_mend_7 (by decide) (fun h_5 => ?_) (fun h_5 => ?_)
  · refine lv_iconst (v := iI (-1)) hx hb dX12_mend_26 rfl ?_
    rw [← hQ]
    exact W.iret (v := iI (-1)) hx hb hr (fun t ht hW => ⟨⟨iI (-1), v, rfl, ⟨(-1), rfl, hI, fr_rf, by omega⟩, by rw [ht]; exact hP, va_K.moved hW.alike hK, hD⟩, hS.F ht⟩) hS.2.2 dX12_mend_27
  · have h_6 : ok L K z_3 4 := h_4.resolve_left (by omega)
    refine xq_aload_n hx hb dX12_mend_10 rfl (lv_at hl 0 rfl) ?_
    refine jt_q (.ref z_3.toNat) (rv_ref (h_6).1) ?_
    have h_7 : (-2147483648) ≤ v z_3 3 ∧ v z_3 3 ≤ 2147483647 := xf_4_3 hI h_6
    refine gx_RX12_385 (y := v z_3 3) hx hb hj hown hK hP h_6 rfl dX12_mend_11 ?_
    refine lv_iconst (v := iI (-1)) hx hb dX12_mend_14 rfl ?_
    refine xr_icmp_eq (tgt := 26) hx hb dX12_mend_15 (by decide) (by omega) (by omega) (fun h_8 => ?_) (fun h_8 => ?_)
    · refine lv_iconst (v := iI (-1)) hx hb dX12_mend_26 rfl ?_
      rw [← hQ]
      exact W.iret (v := iI (-1)) hx hb hr (fun t ht hW => ⟨⟨iI (-1), v, rfl, ⟨(-1), rfl, hI, fr_rf, by omega⟩, by rw [ht]; exact hP, va_K.moved hW.alike hK, hD⟩, hS.F ht⟩) hS.2.2 dX12_mend_27
    · refine lv_aload_n hx hb dX12_mend_18 rfl (lv_at hl 1 rfl) ?_
      refine xq_aload_n hx hb dX12_mend_19 rfl (lv_at hl 0 rfl) ?_
      refine jt_q (.ref z_3.toNat) (rv_ref (h_6).1) ?_
      refine jc_i (va_runV (As := [.ref z_3.toNat]) (rest := []) ⟨hx, hb, hml, hown, hts⟩ (sX12_isSetLine l dC dI _ L cid K N tW sK sV v p0 z_3 hI q0 h_6) (cwV 1 hts (jgoodV m_1133 m_1134 m_1135 m_873 m_1136) rfl rfl rfl (by decide +kernel) ⟨(Nat.le_of_ble_eq_true rfl), (Nat.le_of_ble_eq_true rfl)⟩) ⟨xP_blind, xrecv hK hP q0 rfl rfl, fun U hU hW => ⟨rfl, xP_of hU hW hP hK hD hX hS (fun _ h => h) hA⟩⟩ rfl rfl hl.1 rfl (lv_room (Nat.le_of_ble_eq_true rfl)) dX12_mend_20 ⟨(Nat.le_of_ble_eq_true rfl), (Nat.le_of_ble_eq_true rfl)⟩) hP hS hA (fun r_9 H locs w_10 hP hS => ?_)
      obtain ⟨z_11, rfl, h_12⟩ := w_10
      refine xr_if_eq (tgt := 28) hx hb dX12_mend_23 (by decide) (by omega) (fun h_13 => ?_) (fun h_13 => ?_)
      · refine xq_aload_n hx hb dX12_mend_28 rfl (lv_at hl 0 rfl) ?_
        refine jt_q (.ref z_3.toNat) (rv_ref (h_6).1) ?_
        refine lv_aload_n hx hb dX12_mend_29 rfl (lv_at hl 1 rfl) ?_
        have h_14 : ok L K (v p0 14) 5 := xf_12_14 hI q0
        refine gx_RX12_66 (y := v p0 14) hx hb hj hown hK hP q0 ((xf_12_14 hI q0).1) rfl dX12_mend_30 ?_
        refine xq_aload_n hx hb dX12_mend_33 rfl (lv_at hl 0 rfl) ?_
        refine jt_q (.ref z_3.toNat) (rv_ref (h_6).1) ?_
        refine gx_RX12_385 (y := v z_3 3) hx hb hj hown hK hP h_6 rfl dX12_mend_34 ?_
        refine lv_aload_n hx hb dX12_mend_37 rfl (lv_at hl 1 rfl) ?_
        have h_15 : 0 ≤ v p0 0 ∧ v p0 0 ≤ 2000 := xf_12_0 hI q0
        refine gx_RX12_133 (y := v p0 0) hx hb hj hown hK hP q0 rfl dX12_mend_38 ?_
        refine jc_i (va_runV (As := [.int (iI (v z_3 3)), .int (iI (v p0 0))]) (rest := [.ref z_3.toNat]) ⟨hx, hb, hml, hown, hts⟩ (sX5_valueOn l dC dI _ L cid K N tW sK sV v (v p0 14) (v z_3 3) (v p0 0) hI h_14 (by omega) (by omega)) (cwV 2 hts (jgoodV m_1105 m_1106 m_1107 m_923 m_1108) rfl rfl rfl (by decide +kernel) ⟨(Nat.le_of_ble_eq_true rfl), (Nat.le_of_ble_eq_true rfl)⟩) ⟨xP_blind, xrecv hK hP h_14 rfl rfl, fun U hU hW => ⟨rfl, xP_of hU hW hP hK hD hX hS (fun _ h => h) hA⟩⟩ rfl rfl hl.1 rfl (lv_room (Nat.le_of_ble_eq_true rfl)) dX12_mend_41 ⟨(Nat.le_of_ble_eq_true rfl), (Nat.le_of_ble_eq_true rfl)⟩) hP hS hA (fun r_16 H locs w_17 hP hS => ?_)
        obtain ⟨z_18, rfl, h_19, h_20⟩ := w_17
        refine px_RX12_399 (y := z_18) hx hb hj hown hK hP hD hS hI h_6 ⟨by omega, by omega⟩ dX12_mend_44 (fun v_21 H locs f_22 e_23 o_24 I_25 hP hD hS => ?_)
        refine xq_aload_n hx hb dX12_mend_47 rfl (lv_at hl 0 rfl) ?_
        refine jt_q (.ref z_3.toNat) (rv_ref (h_6).1) ?_
        refine gx_RX12_399 (y := z_18) hx hb hj hown hK hP h_6 e_23 dX12_mend_48 ?_
        rw [← hQ]
        exact W.iret (v := iI z_18) hx hb hr (fun t ht hW => ⟨⟨iI z_18, v_21, rfl, ⟨z_18, rfl, I_25, (fr_tr f_22 rfl fr_rf), by omega⟩, by rw [ht]; exact hP, va_K.moved hW.alike hK, hD⟩, hS.F ht⟩) hS.2.2 dX12_mend_51
      · refine lv_iconst (v := iI (-1)) hx hb dX12_mend_26 rfl ?_
        rw [← hQ]
        exact W.iret (v := iI (-1)) hx hb hr (fun t ht hW => ⟨⟨iI (-1), v, rfl, ⟨(-1), rfl, hI, fr_rf, by omega⟩, by rw [ht]; exact hP, va_K.moved hW.alike hK, hD⟩, hS.F ht⟩) hS.2.2 dX12_mend_27
set_option maxHeartbeats 2000000 in
set_option maxRecDepth 100000 in
theorem sX12_erratum (l : Launch) (dC : Nat → ClassId) (dI : Nat → Nat → Nat) (sz : Nat) (L : List Nat) (cid : Nat → ClassId) (K : Int → Nat) (N : Int → Int) (tW : Nat) (sK sV : Nat → Nat) (v : Int → Int → Int) (p0 : Int) (p1 : Int) (p2 : Int) (p3 : Int) (hI : xI L K N v) (q0 : ok L K p0 12) (q1 : rg p1) (q2 : rg p2) (q3 : rg p3) : Met l yX12_erratum (jk yX12_erratum cX12_erratum 6 (some .int)) ({ frames := 2, cells := 0, slots := 0, locals := 43 }) (va_Pc [.ref p0.toNat, .int (iI p1), .int (iI p2), .int (iI p3)] (xP (dC, dI) (xG L cid K N v) (xT cid) tW sK sV sz)) (va_Qi (fun (r : Int32) (u : (Int → Int → Int)) => ∃ z : Int, r = iI z ∧ (xI L K N u) ∧ (fr K [(5, 11), (47, (-1)), (48, (-1)), (49, (-1)), (50, (-1)), (51, (-1))] u v) ∧ (rg z)) (fun u t => va_P (dC, dI) vwCl (xG L cid K N u) t.heap ∧ va_K (dC, dI) vwCl (xT cid) t ∧ va_D (va_A (xG L cid K N v) sz) (xG L cid K N u)) (va_A (xG L cid K N v) sz)) 0 0 (va_A (xG L cid K N v) sz) := by
  refine Met.ofW (cc := cX12_erratum) (maxL := 6) (ret := (some .int)) (by decide) rfl ?_
  intro p e s m args below meth c s₁ B hml hv
  obtain ⟨rfl, ⟨hsz, hP, hK, hD0⟩, hX⟩ := hv
  have hx := B.exec
  have hb := B.bytes
  have hr := B.returns
  have hts := atoms_spec (ws := (jk yX12_erratum cX12_erratum 6 (some .int))) B.pre
  have hj : ∀ w ∈ jw, w.before ([.ref p0.toNat, .int (iI p1), .int (iI p2), .int (iI p3)] : List Value).toArray s = true := fun w h => hts w (jm h)
  have hown : s.vm.findClass RX12 = some m.cls := findClass_of_methodNamed B.named
  subst hsz
  have hD := hD0.self (sz := s.heap.size)
  generalize hAe : (va_A (xG L cid K N v) s.heap.size) = A at hD hX ⊢
  have hA : ∀ q : Nat, s.heap.size ≤ q → A q := fun q h => by rw [← hAe]; exact Or.inr h
  have hS : va_S A s.heap s.heap [] := va_S.rf
  have hXa := hX
  have hP : va_P (dC, dI) vwCl (xG L cid K N v) s.heap := hP
  have hl := lv_entry ([.ref p0.toNat, .int (iI p1), .int (iI p2), .int (iI p3)]) (n := 6) (Nat.le_of_ble_eq_true rfl)
  rw [lg_entry_eq]
  generalize (lg_sl ([.ref p0.toNat, .int (iI p1), .int (iI p2), .int (iI p3)]) ++ List.replicate (6 - (lg_sl ([.ref p0.toNat, .int (iI p1), .int (iI p2), .int (iI p3)])).length) Slot.unset).toArray = ls at hl ⊢
  have hl : lv_has ls 6 [(0, .ref p0.toNat), (1, .int (iI p1)), (2, .int (iI p2)), (3, .int (iI p3))] := hl
  generalize hQ : MQ below (va_Qi (fun (r : Int32) (u : (Int → Int → Int)) => ∃ z : Int, r = iI z ∧ (xI L K N u) ∧ (fr K [(5, 11), (47, (-1)), (48, (-1)), (49, (-1)), (50, (-1)), (51, (-1))] u v) ∧ (rg z)) (fun u t => va_P (dC, dI) vwCl (xG L cid K N u) t.heap ∧ va_K (dC, dI) vwCl (xT cid) t ∧ va_D A (xG L cid K N u)) A) ([.ref p0.toNat, .int (iI p1), .int (iI p2), .int (iI p3)] : List Value).toArray s 0 0 A = Q
  suffices ST : ∀ (H : Heap) (locs : List Loc), va_P (dC, dI) vwCl (xG L cid K N v) H → va_S A s.heap H locs → W p l e ({ frames := 2, cells := 0, slots := 0, locals := 43 }) s m ([.ref p0.toNat, .int (iI p1), .int (iI p2), .int (iI p3)] : List Value).toArray below meth c H locs 0 0 Q (F0 m 0 ls []) from ST _ _ hP hS
  clear hP hS
  intro H locs hP hS
  refine lv_aload_n hx hb dX12_erratum_0 rfl (lv_at hl 0 rfl) ?_
  refine lv_iload_n hx hb dX12_erratum_1 rfl (lv_at hl 1 rfl) ?_
  refine jc_q (va_runV (As := [.int (iI p1)]) (rest := []) ⟨hx, hb, hml, hown, hts⟩ (sX12_lineAt l dC dI _ L cid K N tW sK sV v p0 p1 hI q0 (by omega)) (cwV 1 hts (jgoodV m_1109 m_1110 m_1111 m_873 m_1112) rfl rfl rfl (by decide +kernel) ⟨(Nat.le_of_ble_eq_true rfl), (Nat.le_of_ble_eq_true rfl)⟩) ⟨xP_blind, xrecv hK hP q0 rfl rfl, fun U hU hW => ⟨rfl, xP_of hU hW hP hK hD hX hS (fun _ h => h) hA⟩⟩ rfl rfl hl.1 rfl (lv_room (Nat.le_of_ble_eq_true rfl)) dX12_erratum_2 ⟨(Nat.le_of_ble_eq_true rfl), (Nat.le_of_ble_eq_true rfl)⟩) hP hS hA (fun r_1 H locs w_2 hP hS => ?_)
  obtain ⟨z_3, rfl, h_4⟩ := w_2
  refine jt_q (rv z_3) rfl ?_
  refine xq_astore (i := 4) (lv' := [(4, rv z_3), (0, .ref p0.toNat), (1, .int (iI p1)), (2, .int (iI p2)), (3, .int (iI p3))]) hx hb dX12_erratum_5 hl (by decide) rfl (fun ls hl => ?_)
  refine xq_aload hx hb dX12_erratum_7 (lv_at hl 0 rfl) ?_
  refine xq_ifnull (tgt := 30) hx hb dX12_erratum_9 (by decide) (fun h_5 => ?_) (fun h_5 => ?_)
  · refine lv_iconst (v := iI (-1)) hx hb dX12_erratum_30 rfl ?_
    rw [← hQ]
    exact W.iret (v := iI (-1)) hx hb hr (fun t ht hW => ⟨⟨iI (-1), v, rfl, ⟨(-1), rfl, hI, fr_rf, by omega⟩, by rw [ht]; exact hP, va_K.moved hW.alike hK, hD⟩, hS.F ht⟩) hS.2.2 dX12_erratum_31
  · have h_6 : ok L K z_3 4 := h_4.resolve_left (by omega)
    refine xq_aload hx hb dX12_erratum_12 (lv_at hl 0 rfl) ?_
    refine jt_q (.ref z_3.toNat) (rv_ref (h_6).1) ?_
    have h_7 : (-2147483648) ≤ v z_3 3 ∧ v z_3 3 ≤ 2147483647 := xf_4_3 hI h_6
    refine gx_RX12_385 (y := v z_3 3) hx hb hj hown hK hP h_6 rfl dX12_erratum_14 ?_
    refine lv_iconst (v := iI (-1)) hx hb dX12_erratum_17 rfl ?_
    refine xr_icmp_eq (tgt := 30) hx hb dX12_erratum_18 (by decide) (by omega) (by omega) (fun h_8 => ?_) (fun h_8 => ?_)
    · refine lv_iconst (v := iI (-1)) hx hb dX12_erratum_30 rfl ?_
      rw [← hQ]
      exact W.iret (v := iI (-1)) hx hb hr (fun t ht hW => ⟨⟨iI (-1), v, rfl, ⟨(-1), rfl, hI, fr_rf, by omega⟩, by rw [ht]; exact hP, va_K.moved hW.alike hK, hD⟩, hS.F ht⟩) hS.2.2 dX12_erratum_31
    · refine lv_aload_n hx hb dX12_erratum_21 rfl (lv_at hl 1 rfl) ?_
      refine xq_aload hx hb dX12_erratum_22 (lv_at hl 0 rfl) ?_
      refine jt_q (.ref z_3.toNat) (rv_ref (h_6).1) ?_
      refine jc_i (va_runV (As := [.ref z_3.toNat]) (rest := []) ⟨hx, hb, hml, hown, hts⟩ (sX12_isSetLine l dC dI _ L cid K N tW sK sV v p0 z_3 hI q0 h_6) (cwV 1 hts (jgoodV m_1133 m_1134 m_1135 m_873 m_1136) rfl rfl rfl (by decide +kernel) ⟨(Nat.le_of_ble_eq_true rfl), (Nat.le_of_ble_eq_true rfl)⟩) ⟨xP_blind, xrecv hK hP q0 rfl rfl, fun U hU hW => ⟨rfl, xP_of hU hW hP hK hD hX hS (fun _ h => h) hA⟩⟩ rfl rfl hl.1 rfl (lv_room (Nat.le_of_ble_eq_true rfl)) dX12_erratum_24 ⟨(Nat.le_of_ble_eq_true rfl), (Nat.le_of_ble_eq_true rfl)⟩) hP hS hA (fun r_9 H locs w_10 hP hS => ?_)
      obtain ⟨z_11, rfl, h_12⟩ := w_10
      refine xr_if_ne (tgt := 32) hx hb dX12_erratum_27 (by decide) (by omega) (fun h_13 => ?_) (fun h_13 => ?_)
      · refine lv_iload_n hx hb dX12_erratum_32 rfl (lv_at hl 3 rfl) ?_
        refine xr_if_lt (tgt := 54) hx hb dX12_erratum_33 (by decide) (by omega) (fun h_14 => ?_) (fun h_14 => ?_)
        · refine lv_iconst (v := iI (-1)) hx hb dX12_erratum_54 rfl ?_
          rw [← hQ]
          exact W.iret (v := iI (-1)) hx hb hr (fun t ht hW => ⟨⟨iI (-1), v, rfl, ⟨(-1), rfl, hI, fr_rf, by omega⟩, by rw [ht]; exact hP, va_K.moved hW.alike hK, hD⟩, hS.F ht⟩) hS.2.2 dX12_erratum_55
        · refine lv_iload_n hx hb dX12_erratum_36 rfl (lv_at hl 3 rfl) ?_
          refine lv_sipush (v := iI 999) hx hb dX12_erratum_37 rfl ?_
          refine xr_icmp_gt (tgt := 54) hx hb dX12_erratum_40 (by decide) (by omega) (by omega) (fun h_15 => ?_) (fun h_15 => ?_)
          · refine lv_iconst (v := iI (-1)) hx hb dX12_erratum_54 rfl ?_
            rw [← hQ]
            exact W.iret (v := iI (-1)) hx hb hr (fun t ht hW => ⟨⟨iI (-1), v, rfl, ⟨(-1), rfl, hI, fr_rf, by omega⟩, by rw [ht]; exact hP, va_K.moved hW.alike hK, hD⟩, hS.F ht⟩) hS.2.2 dX12_erratum_55
          · refine lv_iload_n hx hb dX12_erratum_43 rfl (lv_at hl 4 rfl) ?_
            refine xr_if_lt (tgt := 54) hx hb dX12_erratum_44 (by decide) (by omega) (fun h_16 => ?_) (fun h_16 => ?_)
            · refine lv_iconst (v := iI (-1)) hx hb dX12_erratum_54 rfl ?_
              rw [← hQ]
              exact W.iret (v := iI (-1)) hx hb hr (fun t ht hW => ⟨⟨iI (-1), v, rfl, ⟨(-1), rfl, hI, fr_rf, by omega⟩, by rw [ht]; exact hP, va_K.moved hW.alike hK, hD⟩, hS.F ht⟩) hS.2.2 dX12_erratum_55
            · refine lv_iload_n hx hb dX12_erratum_47 rfl (lv_at hl 4 rfl) ?_
              refine lv_sipush (v := iI 999) hx hb dX12_erratum_48 rfl ?_
              refine xr_icmp_le (tgt := 56) hx hb dX12_erratum_51 (by decide) (by omega) (by omega) (fun h_17 => ?_) (fun h_17 => ?_)
              · refine lv_aload_n hx hb dX12_erratum_56 rfl (lv_at hl 1 rfl) ?_
                have h_18 : ok L K (v p0 14) 5 := xf_12_14 hI q0
                refine gx_RX12_66 (y := v p0 14) hx hb hj hown hK hP q0 ((xf_12_14 hI q0).1) rfl dX12_erratum_57 ?_
                refine lv_iload_n hx hb dX12_erratum_60 rfl (lv_at hl 2 rfl) ?_
                refine xq_aload hx hb dX12_erratum_61 (lv_at hl 0 rfl) ?_
                refine jt_q (.ref z_3.toNat) (rv_ref (h_6).1) ?_
                have h_19 : (-2147483648) ≤ v z_3 6 ∧ v z_3 6 ≤ 2147483647 := xf_4_6 hI h_6
                refine gx_RX12_399 (y := v z_3 6) hx hb hj hown hK hP h_6 rfl dX12_erratum_63 ?_
                refine lv_aload_n hx hb dX12_erratum_66 rfl (lv_at hl 1 rfl) ?_
                have h_20 : 0 ≤ v p0 0 ∧ v p0 0 ≤ 2000 := xf_12_0 hI q0
                refine gx_RX12_133 (y := v p0 0) hx hb hj hown hK hP q0 rfl dX12_erratum_67 ?_
                refine jc_i (va_runV (As := [.int (iI p1), .int (iI (v z_3 6)), .int (iI (v p0 0))]) (rest := []) ⟨hx, hb, hml, hown, hts⟩ (sX5_keptOn l dC dI _ L cid K N tW sK sV v (v p0 14) p1 (v z_3 6) (v p0 0) hI h_18 (by omega) (by omega) (by omega)) (cwV 3 hts (jgoodV m_1125 m_1126 m_1127 m_923 m_1128) rfl rfl rfl (by decide +kernel) ⟨(Nat.le_of_ble_eq_true rfl), (Nat.le_of_ble_eq_true rfl)⟩) ⟨xP_blind, xrecv hK hP h_18 rfl rfl, fun U hU hW => ⟨rfl, xP_of hU hW hP hK hD hX hS (fun _ h => h) hA⟩⟩ rfl rfl hl.1 rfl (lv_room (Nat.le_of_ble_eq_true rfl)) dX12_erratum_70 ⟨(Nat.le_of_ble_eq_true rfl), (Nat.le_of_ble_eq_true rfl)⟩) hP hS hA (fun r_21 H locs w_22 hP hS => ?_)
                obtain ⟨z_23, rfl, h_24⟩ := w_22
                refine lv_iload_n hx hb dX12_erratum_73 rfl (lv_at hl 3 rfl) ?_
                have J82 : ∀ (s0_82 : Int) (H : Heap) (locs : List Loc) (ls : Array Slot), (0 ≤ s0_82 ∧ s0_82 ≤ 1) → va_P (dC, dI) vwCl (xG L cid K N v) H → va_D A (xG L cid K N v) → va_S A s.heap H locs → lv_has ls 6 [(4, rv z_3), (0, .ref p0.toNat), (1, .int (iI p1)), (2, .int (iI p2)), (3, .int (iI p3))] → W p l e ({ frames := 2, cells := 0, slots := 0, locals := 43 }) s m ([.ref p0.toNat, .int (iI p1), .int (iI p2), .int (iI p3)] : List Value).toArray below meth c H locs 0 0 Q (F0 m 82 ls [.int (iI s0_82)]) := by
                  intro s0_82 H locs ls h_25 hP hD hS hl
                  refine lv_istore (i := 5) (lv' := [(5, .int (iI s0_82)), (4, rv z_3), (0, .ref p0.toNat), (1, .int (iI p1)), (2, .int (iI p2)), (3, .int (iI p3))]) hx hb dX12_erratum_82 hl (by decide) (by simp [rv_cat]) (fun ls hl => ?_)
                  refine lv_aload_n hx hb dX12_erratum_84 rfl (lv_at hl 2 rfl) ?_
                  refine gx_RX12_66 (y := v p0 14) hx hb hj hown hK hP q0 ((xf_12_14 hI q0).1) rfl dX12_erratum_85 ?_
                  refine lv_iload_n hx hb dX12_erratum_88 rfl (lv_at hl 3 rfl) ?_
                  refine lv_iload_n hx hb dX12_erratum_89 rfl (lv_at hl 4 rfl) ?_
                  refine lv_iload_n hx hb dX12_erratum_90 rfl (lv_at hl 5 rfl) ?_
                  refine lv_aload_n hx hb dX12_erratum_91 rfl (lv_at hl 2 rfl) ?_
                  refine gx_RX12_133 (y := v p0 0) hx hb hj hown hK hP q0 rfl dX12_erratum_92 ?_
                  refine lv_iload hx hb dX12_erratum_95 (lv_at hl 0 rfl) ?_
                  have J105 : ∀ (s0_105 : Int) (H : Heap) (locs : List Loc) (ls : Array Slot), (0 ≤ s0_105 ∧ s0_105 ≤ 1) → va_P (dC, dI) vwCl (xG L cid K N v) H → va_D A (xG L cid K N v) → va_S A s.heap H locs → lv_has ls 6 [(5, .int (iI s0_82)), (4, rv z_3), (0, .ref p0.toNat), (1, .int (iI p1)), (2, .int (iI p2)), (3, .int (iI p3))] → W p l e ({ frames := 2, cells := 0, slots := 0, locals := 43 }) s m ([.ref p0.toNat, .int (iI p1), .int (iI p2), .int (iI p3)] : List Value).toArray below meth c H locs 0 0 Q (F0 m 105 ls [.int (iI s0_105), .int (iI (v p0 0)), .int (iI p3), .int (iI p2), .int (iI p1), .ref (v p0 14).toNat]) := by
                    intro s0_105 H locs ls h_26 hP hD hS hl
                    refine jcg_i (va_runV (As := [.int (iI p1), .int (iI p2), .int (iI p3), .int (iI (v p0 0)), .int (iI s0_105)]) (rest := []) ⟨hx, hb, hml, hown, hts⟩ (sX5_addErratum l dC dI _ L cid K N tW sK sV v (v p0 14) p1 p2 p3 (v p0 0) s0_105 hI h_18 (by omega) (by omega) (by omega) (by omega) (by omega)) (cwV 5 hts (jgoodV m_1137 m_1138 m_1139 m_923 m_1140) rfl rfl rfl (by decide +kernel) ⟨(Nat.le_of_ble_eq_true rfl), (Nat.le_of_ble_eq_true rfl)⟩) ⟨xP_blind, xrecv hK hP h_18 rfl rfl, fun U hU hW => ⟨rfl, xP_of hU hW hP hK hD hX hS (fun _ h => h) hA⟩⟩ rfl rfl hl.1 rfl (lv_room (Nat.le_of_ble_eq_true rfl)) dX12_erratum_105 ⟨(Nat.le_of_ble_eq_true rfl), (Nat.le_of_ble_eq_true rfl)⟩) hD hS hA (fun r_27 v_31 H locs w_28 hP hK hD hS => ?_)
                    obtain ⟨z_29, rfl, I_33, f_32, h_30⟩ := w_28
                    have hP : va_P (dC, dI) vwCl (xG L cid K N v_31) H := hP
                    have hD : va_D A (xG L cid K N v_31) := hD
                    rw [← hQ]
                    exact W.iret (v := iI z_29) hx hb hr (fun t ht hW => ⟨⟨iI z_29, v_31, rfl, ⟨z_29, rfl, I_33, (fr_tr f_32 rfl fr_rf), by omega⟩, by rw [ht]; exact hP, va_K.moved hW.alike hK, hD⟩, hS.F ht⟩) hS.2.2 dX12_erratum_108
                  refine xr_if_ne (tgt := 104) hx hb dX12_erratum_97 (by decide) (by omega) (fun h_34 => ?_) (fun h_34 => ?_)
                  · refine lv_iconst (v := iI 0) hx hb dX12_erratum_104 rfl ?_
                    exact J105 0 H locs ls (by omega) hP hD hS hl
                  · refine lv_iconst (v := iI 1) hx hb dX12_erratum_100 rfl ?_
                    refine lv_goto (tgt := 105) hx hb dX12_erratum_101 (by decide) ?_
                    exact J105 1 H locs ls (by omega) hP hD hS hl
                refine xr_icmp_ne (tgt := 81) hx hb dX12_erratum_74 (by decide) (by omega) (by omega) (fun h_35 => ?_) (fun h_35 => ?_)
                · refine lv_iconst (v := iI 0) hx hb dX12_erratum_81 rfl ?_
                  exact J82 0 H locs ls (by omega) hP hD hS hl
                · refine lv_iconst (v := iI 1) hx hb dX12_erratum_77 rfl ?_
                  refine lv_goto (tgt := 82) hx hb dX12_erratum_78 (by decide) ?_
                  exact J82 1 H locs ls (by omega) hP hD hS hl
              · refine lv_iconst (v := iI (-1)) hx hb dX12_erratum_54 rfl ?_
                rw [← hQ]
                exact W.iret (v := iI (-1)) hx hb hr (fun t ht hW => ⟨⟨iI (-1), v, rfl, ⟨(-1), rfl, hI, fr_rf, by omega⟩, by rw [ht]; exact hP, va_K.moved hW.alike hK, hD⟩, hS.F ht⟩) hS.2.2 dX12_erratum_55
      · refine lv_iconst (v := iI (-1)) hx hb dX12_erratum_30 rfl ?_
        rw [← hQ]
        exact W.iret (v := iI (-1)) hx hb hr (fun t ht hW => ⟨⟨iI (-1), v, rfl, ⟨(-1), rfl, hI, fr_rf, by omega⟩, by rw [ht]; exact hP, va_K.moved hW.alike hK, hD⟩, hS.F ht⟩) hS.2.2 dX12_erratum_31
set_option maxHeartbeats 2000000 in
set_option maxRecDepth 100000 in
theorem sX12_misses (l : Launch) (dC : Nat → ClassId) (dI : Nat → Nat → Nat) (sz : Nat) (L : List Nat) (cid : Nat → ClassId) (K : Int → Nat) (N : Int → Int) (tW : Nat) (sK sV : Nat → Nat) (v : Int → Int → Int) (p0 : Int) (p1 : Int) (hI : xI L K N v) (q0 : ok L K p0 12) (q1 : rg p1) : Met l yX12_misses (jk yX12_misses cX12_misses 2 (some .int)) ({ frames := 1, cells := 0, slots := 0, locals := 21 }) (va_Pc [.ref p0.toNat, .int (iI p1)] (xP (dC, dI) (xG L cid K N v) (xT cid) tW sK sV sz)) (va_Qi (fun (r : Int32) (_ : Unit) => ∃ z : Int, r = iI z ∧ (rg z)) (fun _ _ => True) (va_A [] sz)) 0 0 (va_A [] sz) := by
  refine Met.ofW (cc := cX12_misses) (maxL := 2) (ret := (some .int)) (by decide) rfl ?_
  intro p e s m args below meth c s₁ B hml hv
  obtain ⟨rfl, ⟨hsz, hP, hK, hD0⟩, hX⟩ := hv
  have hx := B.exec
  have hb := B.bytes
  have hr := B.returns
  have hts := atoms_spec (ws := (jk yX12_misses cX12_misses 2 (some .int))) B.pre
  have hj : ∀ w ∈ jw, w.before ([.ref p0.toNat, .int (iI p1)] : List Value).toArray s = true := fun w h => hts w (jm h)
  have hown : s.vm.findClass RX12 = some m.cls := findClass_of_methodNamed B.named
  subst hsz
  have hDw := hD0.self (sz := s.heap.size)
  have hAA : ∀ q : Nat, s.heap.size ≤ q → va_A (xG L cid K N v) s.heap.size q := fun q h => Or.inr h
  have hAw : ∀ q, va_A [] s.heap.size q → va_A (xG L cid K N v) s.heap.size q := ja_nil va_S.rf hAA
  generalize hAe : (va_A [] s.heap.size) = A at hAw ⊢
  have hA : ∀ q : Nat, s.heap.size ≤ q → A q := fun q h => by rw [← hAe]; exact Or.inr h
  have hS : va_S A s.heap s.heap [] := va_S.rf
  have hXa := hX.nar hAw
  have hP : va_P (dC, dI) vwCl (xG L cid K N v) s.heap := hP
  have hl := lv_entry ([.ref p0.toNat, .int (iI p1)]) (n := 2) (Nat.le_of_ble_eq_true rfl)
  rw [lg_entry_eq]
  generalize (lg_sl ([.ref p0.toNat, .int (iI p1)]) ++ List.replicate (2 - (lg_sl ([.ref p0.toNat, .int (iI p1)])).length) Slot.unset).toArray = ls at hl ⊢
  have hl : lv_has ls 2 [(0, .ref p0.toNat), (1, .int (iI p1))] := hl
  generalize hQ : MQ below (va_Qi (fun (r : Int32) (_ : Unit) => ∃ z : Int, r = iI z ∧ (rg z)) (fun _ _ => True) A) ([.ref p0.toNat, .int (iI p1)] : List Value).toArray s 0 0 A = Q
  suffices ST : ∀ (H : Heap) (locs : List Loc), va_P (dC, dI) vwCl (xG L cid K N v) H → va_S A s.heap H locs → W p l e ({ frames := 1, cells := 0, slots := 0, locals := 21 }) s m ([.ref p0.toNat, .int (iI p1)] : List Value).toArray below meth c H locs 0 0 Q (F0 m 0 ls []) from ST _ _ hP hS
  clear hP hS
  intro H locs hP hS
  refine lv_aload_n hx hb dX12_misses_0 rfl (lv_at hl 0 rfl) ?_
  have h_1 : ok L K (v p0 14) 5 := xf_12_14 hI q0
  refine gx_RX12_66 (y := v p0 14) hx hb hj hown hK hP q0 ((xf_12_14 hI q0).1) rfl dX12_misses_1 ?_
  refine lv_iload_n hx hb dX12_misses_4 rfl (lv_at hl 1 rfl) ?_
  refine jc_i (va_runV (As := [.int (iI p1)]) (rest := []) ⟨hx, hb, hml, hown, hts⟩ (sX5_missedBy l dC dI _ L cid K N tW sK sV v (v p0 14) p1 hI h_1 (by omega)) (cwV 1 hts (jgoodV m_1141 m_1142 m_1143 m_923 m_1144) rfl rfl rfl (by decide +kernel) ⟨(Nat.le_of_ble_eq_true rfl), (Nat.le_of_ble_eq_true rfl)⟩) ⟨xP_blind, xrecv hK hP h_1 rfl rfl, fun U hU hW => ⟨rfl, xP_of hU hW hP hK hDw hX hS hAw hAA⟩⟩ rfl rfl hl.1 rfl (lv_room (Nat.le_of_ble_eq_true rfl)) dX12_misses_5 ⟨(Nat.le_of_ble_eq_true rfl), (Nat.le_of_ble_eq_true rfl)⟩) hP hS hA (fun r_2 H locs w_3 hP hS => ?_)
  obtain ⟨z_4, rfl, h_5⟩ := w_3
  rw [← hQ]
  exact W.iret (v := iI z_4) hx hb hr (fun t ht hW => ⟨⟨iI z_4, (), rfl, ⟨z_4, rfl, by omega⟩, trivial⟩, hS.F ht⟩) hS.2.2 dX12_misses_8
set_option maxHeartbeats 2000000 in
set_option maxRecDepth 100000 in
theorem sX12_pageOf (l : Launch) (dC : Nat → ClassId) (dI : Nat → Nat → Nat) (sz : Nat) (p0 : Int) (p1 : Int) (q1 : rg p1) : Met l yX12_pageOf (jk yX12_pageOf cX12_pageOf 2 (some .int)) ({ frames := 0, cells := 0, slots := 0, locals := 0 }) (va_Pc [.ref p0.toNat, .int (iI p1)] (fun U => U.heap.size = sz)) (va_Qi (fun (r : Int32) (_ : Unit) => ∃ z : Int, r = iI z ∧ (rg z)) (fun _ _ => True) (va_A [] sz)) 0 0 (va_A [] sz) := by
  refine Met.ofW (cc := cX12_pageOf) (maxL := 2) (ret := (some .int)) (by decide) rfl ?_
  intro p e s m args below meth c s₁ B hml hv
  obtain ⟨rfl, hsz⟩ := hv
  have hx := B.exec
  have hb := B.bytes
  have hr := B.returns
  have hts := atoms_spec (ws := (jk yX12_pageOf cX12_pageOf 2 (some .int))) B.pre
  have hj : ∀ w ∈ jw, w.before ([.ref p0.toNat, .int (iI p1)] : List Value).toArray s = true := fun w h => hts w (jm h)
  have hown : s.vm.findClass RX12 = some m.cls := findClass_of_methodNamed B.named
  subst hsz
  have hP : va_P (dC, dI) vwCl [] s.heap := fun k q h => by simp at h
  generalize hAe : (va_A [] s.heap.size) = A
  have hA : ∀ q : Nat, s.heap.size ≤ q → A q := fun q h => by rw [← hAe]; exact Or.inr h
  have hS : va_S A s.heap s.heap [] := va_S.rf
  have hl := lv_entry ([.ref p0.toNat, .int (iI p1)]) (n := 2) (Nat.le_of_ble_eq_true rfl)
  rw [lg_entry_eq]
  generalize (lg_sl ([.ref p0.toNat, .int (iI p1)]) ++ List.replicate (2 - (lg_sl ([.ref p0.toNat, .int (iI p1)])).length) Slot.unset).toArray = ls at hl ⊢
  have hl : lv_has ls 2 [(0, .ref p0.toNat), (1, .int (iI p1))] := hl
  generalize hQ : MQ below (va_Qi (fun (r : Int32) (_ : Unit) => ∃ z : Int, r = iI z ∧ (rg z)) (fun _ _ => True) A) ([.ref p0.toNat, .int (iI p1)] : List Value).toArray s 0 0 A = Q
  suffices ST : ∀ (H : Heap) (locs : List Loc), va_P (dC, dI) vwCl [] H → va_S A s.heap H locs → W p l e ({ frames := 0, cells := 0, slots := 0, locals := 0 }) s m ([.ref p0.toNat, .int (iI p1)] : List Value).toArray below meth c H locs 0 0 Q (F0 m 0 ls []) from ST _ _ hP hS
  clear hP hS
  intro H locs hP hS
  refine lv_iload_n hx hb dX12_pageOf_0 rfl (lv_at hl 1 rfl) ?_
  refine lv_iconst (v := iI (-1)) hx hb dX12_pageOf_1 rfl ?_
  refine xr_icmp_ne (tgt := 9) hx hb dX12_pageOf_2 (by decide) (by omega) (by omega) (fun h_1 => ?_) (fun h_1 => ?_)
  · refine lv_iload_n hx hb dX12_pageOf_9 rfl (lv_at hl 1 rfl) ?_
    refine lv_bipush (v := iI 40) hx hb dX12_pageOf_10 rfl ?_
    refine xr_divA hx hb dX12_pageOf_12 (by omega) (by omega) (fun z_2 h_3 => ?_)
    refine lv_iconst (v := iI 1) hx hb dX12_pageOf_13 rfl ?_
    refine xr_add hx hb dX12_pageOf_14 ?_
    refine xr_kept (fun z_4 h_5 h_6 => ?_)
    rw [← hQ]
    exact W.iret (v := iI z_4) hx hb hr (fun t ht hW => ⟨⟨iI z_4, (), rfl, ⟨z_4, rfl, by omega⟩, trivial⟩, hS.F ht⟩) hS.2.2 dX12_pageOf_15
  · refine lv_iconst (v := iI (-1)) hx hb dX12_pageOf_5 rfl ?_
    refine lv_goto (tgt := 15) hx hb dX12_pageOf_6 (by decide) ?_
    rw [← hQ]
    exact W.iret (v := iI (-1)) hx hb hr (fun t ht hW => ⟨⟨iI (-1), (), rfl, ⟨(-1), rfl, by omega⟩, trivial⟩, hS.F ht⟩) hS.2.2 dX12_pageOf_15
set_option maxHeartbeats 2000000 in
set_option maxRecDepth 100000 in
theorem sX12_told (l : Launch) (dC : Nat → ClassId) (dI : Nat → Nat → Nat) (sz : Nat) (L : List Nat) (cid : Nat → ClassId) (K : Int → Nat) (N : Int → Int) (tW : Nat) (sK sV : Nat → Nat) (v : Int → Int → Int) (p0 : Int) (p1 : Int) (p2 : Int) (hI : xI L K N v) (q0 : ok L K p0 12) (q1 : rg p1) (q2 : rg p2) : Met l yX12_told (jk yX12_told cX12_told 4 (some .int)) ({ frames := 1, cells := 0, slots := 0, locals := 25 }) (va_Pc [.ref p0.toNat, .int (iI p1), .int (iI p2)] (xP (dC, dI) (xG L cid K N v) (xT cid) tW sK sV sz)) (va_Qi (fun (r : Int32) (_ : Unit) => ∃ z : Int, r = iI z ∧ (rg z)) (fun _ _ => True) (va_A [] sz)) 0 0 (va_A [] sz) := by
  refine Met.ofW (cc := cX12_told) (maxL := 4) (ret := (some .int)) (by decide) rfl ?_
  intro p e s m args below meth c s₁ B hml hv
  obtain ⟨rfl, ⟨hsz, hP, hK, hD0⟩, hX⟩ := hv
  have hx := B.exec
  have hb := B.bytes
  have hr := B.returns
  have hts := atoms_spec (ws := (jk yX12_told cX12_told 4 (some .int))) B.pre
  have hj : ∀ w ∈ jw, w.before ([.ref p0.toNat, .int (iI p1), .int (iI p2)] : List Value).toArray s = true := fun w h => hts w (jm h)
  have hown : s.vm.findClass RX12 = some m.cls := findClass_of_methodNamed B.named
  subst hsz
  have hDw := hD0.self (sz := s.heap.size)
  have hAA : ∀ q : Nat, s.heap.size ≤ q → va_A (xG L cid K N v) s.heap.size q := fun q h => Or.inr h
  have hAw : ∀ q, va_A [] s.heap.size q → va_A (xG L cid K N v) s.heap.size q := ja_nil va_S.rf hAA
  generalize hAe : (va_A [] s.heap.size) = A at hAw ⊢
  have hA : ∀ q : Nat, s.heap.size ≤ q → A q := fun q h => by rw [← hAe]; exact Or.inr h
  have hS : va_S A s.heap s.heap [] := va_S.rf
  have hXa := hX.nar hAw
  have hP : va_P (dC, dI) vwCl (xG L cid K N v) s.heap := hP
  have hl := lv_entry ([.ref p0.toNat, .int (iI p1), .int (iI p2)]) (n := 4) (Nat.le_of_ble_eq_true rfl)
  rw [lg_entry_eq]
  generalize (lg_sl ([.ref p0.toNat, .int (iI p1), .int (iI p2)]) ++ List.replicate (4 - (lg_sl ([.ref p0.toNat, .int (iI p1), .int (iI p2)])).length) Slot.unset).toArray = ls at hl ⊢
  have hl : lv_has ls 4 [(0, .ref p0.toNat), (1, .int (iI p1)), (2, .int (iI p2))] := hl
  generalize hQ : MQ below (va_Qi (fun (r : Int32) (_ : Unit) => ∃ z : Int, r = iI z ∧ (rg z)) (fun _ _ => True) A) ([.ref p0.toNat, .int (iI p1), .int (iI p2)] : List Value).toArray s 0 0 A = Q
  suffices ST : ∀ (H : Heap) (locs : List Loc), va_P (dC, dI) vwCl (xG L cid K N v) H → va_S A s.heap H locs → W p l e ({ frames := 1, cells := 0, slots := 0, locals := 25 }) s m ([.ref p0.toNat, .int (iI p1), .int (iI p2)] : List Value).toArray below meth c H locs 0 0 Q (F0 m 0 ls []) from ST _ _ hP hS
  clear hP hS
  intro H locs hP hS
  refine lv_aload_n hx hb dX12_told_0 rfl (lv_at hl 0 rfl) ?_
  refine lv_iload_n hx hb dX12_told_1 rfl (lv_at hl 1 rfl) ?_
  refine jc_q (va_runV (As := [.int (iI p1)]) (rest := []) ⟨hx, hb, hml, hown, hts⟩ (sX12_lineAt l dC dI _ L cid K N tW sK sV v p0 p1 hI q0 (by omega)) (cwV 1 hts (jgoodV m_1109 m_1110 m_1111 m_873 m_1112) rfl rfl rfl (by decide +kernel) ⟨(Nat.le_of_ble_eq_true rfl), (Nat.le_of_ble_eq_true rfl)⟩) ⟨xP_blind, xrecv hK hP q0 rfl rfl, fun U hU hW => ⟨rfl, xP_of hU hW hP hK hDw hX hS hAw hAA⟩⟩ rfl rfl hl.1 rfl (lv_room (Nat.le_of_ble_eq_true rfl)) dX12_told_2 ⟨(Nat.le_of_ble_eq_true rfl), (Nat.le_of_ble_eq_true rfl)⟩) hP hS hA (fun r_1 H locs w_2 hP hS => ?_)
  obtain ⟨z_3, rfl, h_4⟩ := w_2
  refine jt_q (rv z_3) rfl ?_
  refine xq_astore_n (i := 3) (lv' := [(3, rv z_3), (0, .ref p0.toNat), (1, .int (iI p1)), (2, .int (iI p2))]) hx hb dX12_told_5 rfl hl (by decide) rfl (fun ls hl => ?_)
  refine xq_aload_n hx hb dX12_told_6 rfl (lv_at hl 0 rfl) ?_
  refine xq_ifnonnull (tgt := 12) hx hb dX12_told_7 (by decide) (fun h_5 => ?_) (fun h_5 => ?_)
  · have h_6 : ok L K z_3 4 := h_4.resolve_left (by omega)
    refine lv_iload_n hx hb dX12_told_12 rfl (lv_at hl 3 rfl) ?_
    rcases (show (p2 < 0 ∨ 7 < p2) ∨ p2 = 0 ∨ p2 = 1 ∨ p2 = 2 ∨ p2 = 3 ∨ p2 = 4 ∨ p2 = 5 ∨ p2 = 6 ∨ p2 = 7 by omega) with h_7 | h_7 | h_7 | h_7 | h_7 | h_7 | h_7 | h_7 | h_7
    · refine lv_tableOut (tgt := 128) hx hb dX12_told_13 (by rw [iI_toInt (by omega)]; omega) (by decide) ?_
      refine lv_iconst (v := iI (-1)) hx hb dX12_told_128 rfl ?_
      rw [← hQ]
      exact W.iret (v := iI (-1)) hx hb hr (fun t ht hW => ⟨⟨iI (-1), (), rfl, ⟨(-1), rfl, by omega⟩, trivial⟩, hS.F ht⟩) hS.2.2 dX12_told_129
    · refine jtab_in (v := iI 0) (off := 47) (tgt := 60) hx hb dX12_told_13 (by rw [h_7]) (by decide) (by decide) (by decide) (by decide) ?_
      refine xq_aload_n hx hb dX12_told_60 rfl (lv_at hl 0 rfl) ?_
      refine jt_q (.ref z_3.toNat) (rv_ref (h_6).1) ?_
      have h_8 : (-2147483648) ≤ v z_3 6 ∧ v z_3 6 ≤ 2147483647 := xf_4_6 hI h_6
      refine gx_RX12_399 (y := v z_3 6) hx hb hj hown hK hP h_6 rfl dX12_told_61 ?_
      rw [← hQ]
      exact W.iret (v := iI (v z_3 6)) hx hb hr (fun t ht hW => ⟨⟨iI (v z_3 6), (), rfl, ⟨v z_3 6, rfl, by omega⟩, trivial⟩, hS.F ht⟩) hS.2.2 dX12_told_64
    · refine jtab_in (v := iI 1) (off := 52) (tgt := 65) hx hb dX12_told_13 (by rw [h_7]) (by decide) (by decide) (by decide) (by decide) ?_
      refine xq_aload_n hx hb dX12_told_65 rfl (lv_at hl 0 rfl) ?_
      refine jt_q (.ref z_3.toNat) (rv_ref (h_6).1) ?_
      have h_9 : (-2147483648) ≤ v z_3 3 ∧ v z_3 3 ≤ 2147483647 := xf_4_3 hI h_6
      refine gx_RX12_385 (y := v z_3 3) hx hb hj hown hK hP h_6 rfl dX12_told_66 ?_
      refine lv_iconst (v := iI (-1)) hx hb dX12_told_69 rfl ?_
      refine xr_icmp_ne (tgt := 77) hx hb dX12_told_70 (by decide) (by omega) (by omega) (fun h_10 => ?_) (fun h_10 => ?_)
      · refine lv_aload_n hx hb dX12_told_77 rfl (lv_at hl 1 rfl) ?_
        have h_11 : ok L K (v p0 14) 5 := xf_12_14 hI q0
        refine gx_RX12_66 (y := v p0 14) hx hb hj hown hK hP q0 ((xf_12_14 hI q0).1) rfl dX12_told_78 ?_
        refine lv_iload_n hx hb dX12_told_81 rfl (lv_at hl 2 rfl) ?_
        refine xq_aload_n hx hb dX12_told_82 rfl (lv_at hl 0 rfl) ?_
        refine jt_q (.ref z_3.toNat) (rv_ref (h_6).1) ?_
        have h_12 : (-2147483648) ≤ v z_3 6 ∧ v z_3 6 ≤ 2147483647 := xf_4_6 hI h_6
        refine gx_RX12_399 (y := v z_3 6) hx hb hj hown hK hP h_6 rfl dX12_told_83 ?_
        refine lv_aload_n hx hb dX12_told_86 rfl (lv_at hl 1 rfl) ?_
        have h_13 : 0 ≤ v p0 0 ∧ v p0 0 ≤ 2000 := xf_12_0 hI q0
        refine gx_RX12_133 (y := v p0 0) hx hb hj hown hK hP q0 rfl dX12_told_87 ?_
        refine jc_i (va_runV (As := [.int (iI p1), .int (iI (v z_3 6)), .int (iI (v p0 0))]) (rest := []) ⟨hx, hb, hml, hown, hts⟩ (sX5_keptOn l dC dI _ L cid K N tW sK sV v (v p0 14) p1 (v z_3 6) (v p0 0) hI h_11 (by omega) (by omega) (by omega)) (cwV 3 hts (jgoodV m_1125 m_1126 m_1127 m_923 m_1128) rfl rfl rfl (by decide +kernel) ⟨(Nat.le_of_ble_eq_true rfl), (Nat.le_of_ble_eq_true rfl)⟩) ⟨xP_blind, xrecv hK hP h_11 rfl rfl, fun U hU hW => ⟨rfl, xP_of hU hW hP hK hDw hX hS hAw hAA⟩⟩ rfl rfl hl.1 rfl (lv_room (Nat.le_of_ble_eq_true rfl)) dX12_told_90 ⟨(Nat.le_of_ble_eq_true rfl), (Nat.le_of_ble_eq_true rfl)⟩) hP hS hA (fun r_14 H locs w_15 hP hS => ?_)
        obtain ⟨z_16, rfl, h_17⟩ := w_15
        rw [← hQ]
        exact W.iret (v := iI z_16) hx hb hr (fun t ht hW => ⟨⟨iI z_16, (), rfl, ⟨z_16, rfl, by omega⟩, trivial⟩, hS.F ht⟩) hS.2.2 dX12_told_93
      · refine lv_iconst (v := iI (-1)) hx hb dX12_told_73 rfl ?_
        refine lv_goto (tgt := 93) hx hb dX12_told_74 (by decide) ?_
        rw [← hQ]
        exact W.iret (v := iI (-1)) hx hb hr (fun t ht hW => ⟨⟨iI (-1), (), rfl, ⟨(-1), rfl, by omega⟩, trivial⟩, hS.F ht⟩) hS.2.2 dX12_told_93
    · refine jtab_in (v := iI 2) (off := 81) (tgt := 94) hx hb dX12_told_13 (by rw [h_7]) (by decide) (by decide) (by decide) (by decide) ?_
      refine xq_aload_n hx hb dX12_told_94 rfl (lv_at hl 0 rfl) ?_
      refine jt_q (.ref z_3.toNat) (rv_ref (h_6).1) ?_
      have h_18 : (-2147483648) ≤ v z_3 3 ∧ v z_3 3 ≤ 2147483647 := xf_4_3 hI h_6
      refine gx_RX12_385 (y := v z_3 3) hx hb hj hown hK hP h_6 rfl dX12_told_95 ?_
      rw [← hQ]
      exact W.iret (v := iI (v z_3 3)) hx hb hr (fun t ht hW => ⟨⟨iI (v z_3 3), (), rfl, ⟨v z_3 3, rfl, by omega⟩, trivial⟩, hS.F ht⟩) hS.2.2 dX12_told_98
    · refine jtab_in (v := iI 3) (off := 86) (tgt := 99) hx hb dX12_told_13 (by rw [h_7]) (by decide) (by decide) (by decide) (by decide) ?_
      refine xq_aload_n hx hb dX12_told_99 rfl (lv_at hl 0 rfl) ?_
      refine jt_q (.ref z_3.toNat) (rv_ref (h_6).1) ?_
      have h_19 : (-2147483648) ≤ v z_3 4 ∧ v z_3 4 ≤ 2147483647 := xf_4_4 hI h_6
      refine gx_RX12_402 (y := v z_3 4) hx hb hj hown hK hP h_6 rfl dX12_told_100 ?_
      rw [← hQ]
      exact W.iret (v := iI (v z_3 4)) hx hb hr (fun t ht hW => ⟨⟨iI (v z_3 4), (), rfl, ⟨v z_3 4, rfl, by omega⟩, trivial⟩, hS.F ht⟩) hS.2.2 dX12_told_103
    · refine jtab_in (v := iI 4) (off := 91) (tgt := 104) hx hb dX12_told_13 (by rw [h_7]) (by decide) (by decide) (by decide) (by decide) ?_
      refine xq_aload_n hx hb dX12_told_104 rfl (lv_at hl 0 rfl) ?_
      refine jt_q (.ref z_3.toNat) (rv_ref (h_6).1) ?_
      have h_20 : (-2147483648) ≤ v z_3 0 ∧ v z_3 0 ≤ 2147483647 := xf_4_0 hI h_6
      refine gx_RX12_422 (y := v z_3 0) hx hb hj hown hK hP h_6 rfl dX12_told_105 ?_
      rw [← hQ]
      exact W.iret (v := iI (v z_3 0)) hx hb hr (fun t ht hW => ⟨⟨iI (v z_3 0), (), rfl, ⟨v z_3 0, rfl, by omega⟩, trivial⟩, hS.F ht⟩) hS.2.2 dX12_told_108
    · refine jtab_in (v := iI 5) (off := 96) (tgt := 109) hx hb dX12_told_13 (by rw [h_7]) (by decide) (by decide) (by decide) (by decide) ?_
      refine lv_aload_n hx hb dX12_told_109 rfl (lv_at hl 1 rfl) ?_
      refine xq_aload_n hx hb dX12_told_110 rfl (lv_at hl 0 rfl) ?_
      refine jt_q (.ref z_3.toNat) (rv_ref (h_6).1) ?_
      have h_21 : (-2147483648) ≤ v z_3 7 ∧ v z_3 7 ≤ 2147483647 := xf_4_7 hI h_6
      refine gx_RX12_436 (y := v z_3 7) hx hb hj hown hK hP h_6 rfl dX12_told_111 ?_
      refine jc_i (va_runV (As := [.int (iI (v z_3 7))]) (rest := []) ⟨hx, hb, hml, hown, hts⟩ (sX12_pageOf l dC dI _ p0 (v z_3 7) (by omega)) (cwV 1 hts (jgoodV m_1145 m_1146 m_1147 m_873 m_1148) rfl rfl rfl (by decide +kernel) ⟨(Nat.le_of_ble_eq_true rfl), (Nat.le_of_ble_eq_true rfl)⟩) ⟨jw_blind0, xrecv hK hP q0 rfl rfl, fun U hU hW => ⟨rfl, congrArg Array.size hU⟩⟩ rfl rfl hl.1 rfl (lv_room (Nat.le_of_ble_eq_true rfl)) dX12_told_114 ⟨(Nat.le_of_ble_eq_true rfl), (Nat.le_of_ble_eq_true rfl)⟩) hP hS hA (fun r_22 H locs w_23 hP hS => ?_)
      obtain ⟨z_24, rfl, h_25⟩ := w_23
      rw [← hQ]
      exact W.iret (v := iI z_24) hx hb hr (fun t ht hW => ⟨⟨iI z_24, (), rfl, ⟨z_24, rfl, by omega⟩, trivial⟩, hS.F ht⟩) hS.2.2 dX12_told_117
    · refine jtab_in (v := iI 6) (off := 105) (tgt := 118) hx hb dX12_told_13 (by rw [h_7]) (by decide) (by decide) (by decide) (by decide) ?_
      refine xq_aload_n hx hb dX12_told_118 rfl (lv_at hl 0 rfl) ?_
      refine jt_q (.ref z_3.toNat) (rv_ref (h_6).1) ?_
      have h_26 : (-2147483648) ≤ v z_3 8 ∧ v z_3 8 ≤ 2147483647 := xf_4_8 hI h_6
      refine gx_RX12_382 (y := v z_3 8) hx hb hj hown hK hP h_6 rfl dX12_told_119 ?_
      rw [← hQ]
      exact W.iret (v := iI (v z_3 8)) hx hb hr (fun t ht hW => ⟨⟨iI (v z_3 8), (), rfl, ⟨v z_3 8, rfl, by omega⟩, trivial⟩, hS.F ht⟩) hS.2.2 dX12_told_122
    · refine jtab_in (v := iI 7) (off := 110) (tgt := 123) hx hb dX12_told_13 (by rw [h_7]) (by decide) (by decide) (by decide) (by decide) ?_
      refine xq_aload_n hx hb dX12_told_123 rfl (lv_at hl 0 rfl) ?_
      refine jt_q (.ref z_3.toNat) (rv_ref (h_6).1) ?_
      have h_27 : (-2147483648) ≤ v z_3 1 ∧ v z_3 1 ≤ 2147483647 := xf_4_1 hI h_6
      refine gx_RX12_442 (y := v z_3 1) hx hb hj hown hK hP h_6 rfl dX12_told_124 ?_
      rw [← hQ]
      exact W.iret (v := iI (v z_3 1)) hx hb hr (fun t ht hW => ⟨⟨iI (v z_3 1), (), rfl, ⟨v z_3 1, rfl, by omega⟩, trivial⟩, hS.F ht⟩) hS.2.2 dX12_told_127
  · refine lv_iconst (v := iI (-1)) hx hb dX12_told_10 rfl ?_
    rw [← hQ]
    exact W.iret (v := iI (-1)) hx hb hr (fun t ht hW => ⟨⟨iI (-1), (), rfl, ⟨(-1), rfl, by omega⟩, trivial⟩, hS.F ht⟩) hS.2.2 dX12_told_11
