set_option maxHeartbeats 2000000 in
set_option maxRecDepth 100000 in
theorem sX12_set (l : Launch) (dC : Nat → ClassId) (dI : Nat → Nat → Nat) (sz : Nat) (L : List Nat) (cid : Nat → ClassId) (K : Int → Nat) (N : Int → Int) (tW : Nat) (sK sV : Nat → Nat) (v : Int → Int → Int) (p0 : Int) (p1 : Int) (hI : xI L K N v) (q0 : ok L K p0 12) (q1 : rg p1) : Met l yX12_set (jk yX12_set cX12_set 3 (some .int)) ({ frames := 6, cells := 2, slots := 12060, locals := 161 }) (va_Pc [.ref p0.toNat, .int (iI p1)] (xP (dC, dI) (xG L cid K N v) (xT cid) tW sK sV sz)) (va_Qi (fun (r : Int32) (u : (List Nat × (Int → Nat) × (Int → Int) × (Int → Int → Int))) => ∃ z : Int, r = iI z ∧ (xI u.1 u.2.1 u.2.2.1 u.2.2.2) ∧ (xE L K N u.1 u.2.1 u.2.2.1) ∧ (frE L K [(0, 5), (0, 12), (0, 13), (4, 7), (6, 1), (6, 2), (6, 3), (6, 4), (6, 5), (11, 1), (11, 2), (11, 3), (11, 4), (11, 5), (11, 6), (12, 1), (12, 9), (33, (-1)), (34, (-1)), (37, (-1)), (63, (-1)), (64, (-1)), (99, 0)] u.2.2.2 v) ∧ (rg z)) (fun u t => va_P (dC, dI) vwCl (xG u.1 cid u.2.1 u.2.2.1 u.2.2.2) t.heap ∧ va_K (dC, dI) vwCl (xT cid) t ∧ va_D (va_A (xG L cid K N v) sz) (xG u.1 cid u.2.1 u.2.2.1 u.2.2.2)) (va_A (xG L cid K N v) sz)) 2 12060 (va_A (xG L cid K N v) sz) := by
  refine Met.ofW (cc := cX12_set) (maxL := 3) (ret := (some .int)) (by decide) rfl ?_
  intro p e s m args below meth c s₁ B hml hv
  obtain ⟨rfl, ⟨hsz, hP, hK, hD0⟩, hX⟩ := hv
  have hx := B.exec
  have hb := B.bytes
  have hr := B.returns
  have hts := atoms_spec (ws := (jk yX12_set cX12_set 3 (some .int))) B.pre
  have hj : ∀ w ∈ jw, w.before ([.ref p0.toNat, .int (iI p1)] : List Value).toArray s = true := fun w h => hts w (jm h)
  have hown : s.vm.findClass RX12 = some m.cls := findClass_of_methodNamed B.named
  subst hsz
  have hD := hD0.self (sz := s.heap.size)
  generalize hAe : (va_A (xG L cid K N v) s.heap.size) = A at hD hX ⊢
  have hA : ∀ q : Nat, s.heap.size ≤ q → A q := fun q h => by rw [← hAe]; exact Or.inr h
  have hS : va_S A s.heap s.heap [] := va_S.rf
  have hE0 : xE L K N L K N := xE_rf
  have hF0 : frE L K [(0, 5), (0, 12), (0, 13), (4, 7), (6, 1), (6, 2), (6, 3), (6, 4), (6, 5), (11, 1), (11, 2), (11, 3), (11, 4), (11, 5), (11, 6), (12, 1), (12, 9), (33, (-1)), (34, (-1)), (37, (-1)), (63, (-1)), (64, (-1)), (99, 0)] v v := frE_rf
  have hXa := hX
  have hP : va_P (dC, dI) vwCl (xG L cid K N v) s.heap := hP
  have hl := lv_entry ([.ref p0.toNat, .int (iI p1)]) (n := 3) (Nat.le_of_ble_eq_true rfl)
  rw [lg_entry_eq]
  generalize (lg_sl ([.ref p0.toNat, .int (iI p1)]) ++ List.replicate (3 - (lg_sl ([.ref p0.toNat, .int (iI p1)])).length) Slot.unset).toArray = ls at hl ⊢
  have hl : lv_has ls 3 [(0, .ref p0.toNat), (1, .int (iI p1))] := hl
  generalize hQ : MQ below (va_Qi (fun (r : Int32) (u : (List Nat × (Int → Nat) × (Int → Int) × (Int → Int → Int))) => ∃ z : Int, r = iI z ∧ (xI u.1 u.2.1 u.2.2.1 u.2.2.2) ∧ (xE L K N u.1 u.2.1 u.2.2.1) ∧ (frE L K [(0, 5), (0, 12), (0, 13), (4, 7), (6, 1), (6, 2), (6, 3), (6, 4), (6, 5), (11, 1), (11, 2), (11, 3), (11, 4), (11, 5), (11, 6), (12, 1), (12, 9), (33, (-1)), (34, (-1)), (37, (-1)), (63, (-1)), (64, (-1)), (99, 0)] u.2.2.2 v) ∧ (rg z)) (fun u t => va_P (dC, dI) vwCl (xG u.1 cid u.2.1 u.2.2.1 u.2.2.2) t.heap ∧ va_K (dC, dI) vwCl (xT cid) t ∧ va_D A (xG u.1 cid u.2.1 u.2.2.1 u.2.2.2)) A) ([.ref p0.toNat, .int (iI p1)] : List Value).toArray s 2 12060 A = Q
  suffices ST : ∀ (H : Heap) (locs : List Loc), va_P (dC, dI) vwCl (xG L cid K N v) H → va_S A s.heap H locs → W p l e ({ frames := 6, cells := 2, slots := 12060, locals := 161 }) s m ([.ref p0.toNat, .int (iI p1)] : List Value).toArray below meth c H locs 0 0 Q (F0 m 0 ls []) from ST _ _ hP hS
  clear hP hS
  intro H locs hP hS
  refine lv_aload_n hx hb dX12_set_0 rfl (lv_at hl 0 rfl) ?_
  refine lv_iload_n hx hb dX12_set_1 rfl (lv_at hl 1 rfl) ?_
  refine jc_q (va_runV (As := [.int (iI p1)]) (rest := []) ⟨hx, hb, hml, hown, hts⟩ (sX12_volumeAt l dC dI _ L cid K N tW sK sV v p0 p1 hI q0 (by omega)) (cwV 1 hts (jgoodV m_989 m_990 m_991 m_873 m_992) rfl rfl rfl (by decide +kernel) ⟨(Nat.le_of_ble_eq_true rfl), (Nat.le_of_ble_eq_true rfl)⟩) ⟨xP_blind, xrecv hK hP q0 rfl rfl, fun U hU hW => ⟨rfl, xP_of hU hW hP hK hD hX hS (fun _ h => h) hA⟩⟩ rfl rfl hl.1 rfl (lv_room (Nat.le_of_ble_eq_true rfl)) dX12_set_2 ⟨(Nat.le_of_ble_eq_true rfl), (Nat.le_of_ble_eq_true rfl)⟩) hP hS hA (fun r_1 H locs w_2 hP hS => ?_)
  obtain ⟨z_3, rfl, h_4⟩ := w_2
  refine jt_q (rv z_3) rfl ?_
  refine xq_astore_n (i := 2) (lv' := [(2, rv z_3), (0, .ref p0.toNat), (1, .int (iI p1))]) hx hb dX12_set_5 rfl hl (by decide) rfl (fun ls hl => ?_)
  refine xq_aload_n hx hb dX12_set_6 rfl (lv_at hl 0 rfl) ?_
  refine xq_ifnull (tgt := 18) hx hb dX12_set_7 (by decide) (fun h_5 => ?_) (fun h_5 => ?_)
  · refine lv_iconst (v := iI (-1)) hx hb dX12_set_18 rfl ?_
    refine W.widen (k := 2) (n := 12060) (Nat.le_of_ble_eq_true rfl) (Nat.le_of_ble_eq_true rfl) ?_
    rw [← hQ]
    exact W.iret (v := iI (-1)) hx hb hr (fun t ht hW => ⟨⟨iI (-1), (L, K, N, v), rfl, ⟨(-1), rfl, hI, hE0, hF0, by omega⟩, by rw [ht]; exact hP, va_K.moved hW.alike hK, hD⟩, hS.F ht⟩) hS.2.2 dX12_set_19
  · have h_6 : ok L K z_3 11 := h_4.resolve_left (by omega)
    refine xq_aload_n hx hb dX12_set_10 rfl (lv_at hl 0 rfl) ?_
    refine jt_q (.ref z_3.toNat) (rv_ref (h_6).1) ?_
    have h_7 : (-2147483648) ≤ v z_3 1 ∧ v z_3 1 ≤ 2147483647 := xf_11_1 hI h_6
    refine gx_RX12_170 (y := v z_3 1) hx hb hj hown hK hP h_6 rfl dX12_set_11 ?_
    refine lv_iconst (v := iI (-1)) hx hb dX12_set_14 rfl ?_
    refine xr_icmp_eq (tgt := 20) hx hb dX12_set_15 (by decide) (by omega) (by omega) (fun h_8 => ?_) (fun h_8 => ?_)
    · refine lv_aload_n hx hb dX12_set_20 rfl (lv_at hl 1 rfl) ?_
      refine lv_iload_n hx hb dX12_set_21 rfl (lv_at hl 2 rfl) ?_
      refine jcg_v (va_runV (As := [.int (iI p1)]) (rest := []) ⟨hx, hb, hml, hown, hts⟩ (sX12_arrange l dC dI _ L cid K N tW sK sV v p0 p1 hI q0 (by omega)) (cwV 1 hts (jgoodV m_1047 m_1048 m_1049 m_873 m_1050) rfl rfl rfl (by decide +kernel) ⟨(Nat.le_of_ble_eq_true rfl), (Nat.le_of_ble_eq_true rfl)⟩) ⟨xP_blind, xrecv hK hP q0 rfl rfl, fun U hU hW => ⟨rfl, xP_of hU hW hP hK hD hX hS (fun _ h => h) hA⟩⟩ rfl rfl hl.1 rfl (lv_room (Nat.le_of_ble_eq_true rfl)) dX12_set_22 ⟨(Nat.le_of_ble_eq_true rfl), (Nat.le_of_ble_eq_true rfl)⟩) hD hS hA (fun v_12 H locs w_10 hP hK hD hS => ?_)
      obtain ⟨I_14, f_13⟩ := w_10
      have hP : va_P (dC, dI) vwCl (xG L cid K N v_12) H := hP
      have hD : va_D A (xG L cid K N v_12) := hD
      refine lv_aload_n hx hb dX12_set_25 rfl (lv_at hl 1 rfl) ?_
      refine jcg_i (va_runV (As := []) (rest := []) ⟨hx, hb, hml, hown, hts⟩ (sX12_rowMayBeSet l dC dI _ L cid K N tW sK sV v_12 p0 I_14 q0) (cwV 0 hts (jgoodV m_1403 m_1404 m_1405 m_873 m_1406) rfl rfl rfl (by decide +kernel) ⟨(Nat.le_of_ble_eq_true rfl), (Nat.le_of_ble_eq_true rfl)⟩) ⟨xP_blind, xrecv hK hP q0 rfl rfl, fun U hU hW => ⟨rfl, xP_of hU hW hP hK hD hX hS (fun _ h => h) hA⟩⟩ rfl rfl hl.1 rfl (lv_room (Nat.le_of_ble_eq_true rfl)) dX12_set_26 ⟨(Nat.le_of_ble_eq_true rfl), (Nat.le_of_ble_eq_true rfl)⟩) hD hS hA (fun r_15 v_19 H locs w_16 hP hK hD hS => ?_)
      obtain ⟨z_17, rfl, I_21, f_20, h_18⟩ := w_16
      have hP : va_P (dC, dI) vwCl (xG L cid K N v_19) H := hP
      have hD : va_D A (xG L cid K N v_19) := hD
      refine xr_if_ne (tgt := 34) hx hb dX12_set_29 (by decide) (by omega) (fun h_22 => ?_) (fun h_22 => ?_)
      · refine lv_aload_n hx hb dX12_set_34 rfl (lv_at hl 1 rfl) ?_
        refine xq_aload_n hx hb dX12_set_35 rfl (lv_at hl 0 rfl) ?_
        refine jt_q (.ref z_3.toNat) (rv_ref (h_6).1) ?_
        refine lv_iload_n hx hb dX12_set_36 rfl (lv_at hl 2 rfl) ?_
        refine jcg_v (va_runV (As := [.ref z_3.toNat, .int (iI p1)]) (rest := []) ⟨hx, hb, hml, hown, hts⟩ (sX12_lay l dC dI _ L cid K N tW sK sV v_19 p0 z_3 p1 I_21 q0 h_6 (by omega)) (cwV 2 hts (jgoodV m_1407 m_1408 m_1409 m_873 m_1410) rfl rfl rfl (by decide +kernel) ⟨(Nat.le_of_ble_eq_true rfl), (Nat.le_of_ble_eq_true rfl)⟩) ⟨xP_blind, xrecv hK hP q0 rfl rfl, fun U hU hW => ⟨rfl, xP_of hU hW hP hK hD hX hS (fun _ h => h) hA⟩⟩ rfl rfl hl.1 rfl (lv_room (Nat.le_of_ble_eq_true rfl)) dX12_set_37 ⟨(Nat.le_of_ble_eq_true rfl), (Nat.le_of_ble_eq_true rfl)⟩) hD hS hA (fun u_26 H locs w_24 hP hK hD hS => ?_)
        refine W.widen (k := 2) (n := 12060) (Nat.le_of_ble_eq_true rfl) (Nat.le_of_ble_eq_true rfl) ?_
        obtain ⟨L_27, K_28, N_29, v_30⟩ := u_26
        obtain ⟨I_32, E_33, f_31⟩ := w_24
        have hP : va_P (dC, dI) vwCl (xG L_27 cid K_28 N_29 v_30) H := hP
        have hD : va_D A (xG L_27 cid K_28 N_29 v_30) := hD
        have I_32 : xI L_27 K_28 N_29 v_30 := I_32
        have E_33 : xE L K N L_27 K_28 N_29 := E_33
        have f_31 : frE L K [(0, 12), (0, 13), (4, 7), (11, 1), (11, 2), (11, 3), (11, 4), (11, 5), (11, 6), (12, 1), (63, (-1)), (64, (-1)), (99, 0)] v_30 v_19 := f_31
        have F_34 := frE_fr (W := [(0, 5), (0, 12), (0, 13), (4, 7), (6, 1), (6, 2), (6, 3), (6, 4), (6, 5), (11, 1), (11, 2), (11, 3), (11, 4), (11, 5), (11, 6), (12, 1), (12, 9), (33, (-1)), (34, (-1)), (37, (-1)), (63, (-1)), (64, (-1)), (99, 0)]) (W1 := [(0, 5), (0, 12), (0, 13), (4, 7), (6, 1), (6, 2), (6, 3), (6, 4), (6, 5), (11, 1), (11, 2), (11, 3), (11, 4), (11, 5), (11, 6), (12, 1), (12, 9), (33, (-1)), (34, (-1)), (37, (-1)), (63, (-1)), (64, (-1)), (99, 0)]) hE0 (fr_tr f_20 rfl (fr_tr f_13 rfl fr_rf)) rfl hF0
        have F_36 := frE_frE (W := [(0, 5), (0, 12), (0, 13), (4, 7), (6, 1), (6, 2), (6, 3), (6, 4), (6, 5), (11, 1), (11, 2), (11, 3), (11, 4), (11, 5), (11, 6), (12, 1), (12, 9), (33, (-1)), (34, (-1)), (37, (-1)), (63, (-1)), (64, (-1)), (99, 0)]) hE0 f_31 rfl F_34
        have E_35 := xE_tr hE0 E_33
        have h_37 := xE_ok E_33 q0
        have h_38 := xE_ok E_33 h_6
        have h_39 := xE_nl E_33 h_4
        refine xq_aload_n hx hb dX12_set_40 rfl (lv_at hl 0 rfl) ?_
        refine jt_q (.ref z_3.toNat) (rv_ref (h_38).1) ?_
        have h_40 : (-2147483648) ≤ v_30 z_3 5 ∧ v_30 z_3 5 ≤ 2147483647 := xf_11_5 I_32 h_38
        refine gx_RX12_450 (y := v_30 z_3 5) hx hb hj hown hK hP h_38 rfl dX12_set_41 ?_
        refine lv_bipush (v := iI 40) hx hb dX12_set_44 rfl ?_
        refine xr_add hx hb dX12_set_46 ?_
        refine xr_kept (fun z_41 h_42 h_43 => ?_)
        refine lv_iconst (v := iI 1) hx hb dX12_set_47 rfl ?_
        refine xr_sub hx hb dX12_set_48 ?_
        refine xr_kept (fun z_44 h_45 h_46 => ?_)
        refine lv_bipush (v := iI 40) hx hb dX12_set_49 rfl ?_
        refine xr_divA hx hb dX12_set_51 (by omega) (by omega) (fun z_47 h_48 => ?_)
        rw [← hQ]
        exact W.iret (v := iI z_47) hx hb hr (fun t ht hW => ⟨⟨iI z_47, (L_27, K_28, N_29, v_30), rfl, ⟨z_47, rfl, I_32, E_35, F_36, by omega⟩, by rw [ht]; exact hP, va_K.moved hW.alike hK, hD⟩, hS.F ht⟩) hS.2.2 dX12_set_52
      · refine lv_iconst (v := iI (-1)) hx hb dX12_set_32 rfl ?_
        have F_49 := frE_fr (W := [(0, 5), (0, 12), (0, 13), (4, 7), (6, 1), (6, 2), (6, 3), (6, 4), (6, 5), (11, 1), (11, 2), (11, 3), (11, 4), (11, 5), (11, 6), (12, 1), (12, 9), (33, (-1)), (34, (-1)), (37, (-1)), (63, (-1)), (64, (-1)), (99, 0)]) (W1 := [(0, 5), (0, 12), (0, 13), (4, 7), (6, 1), (6, 2), (6, 3), (6, 4), (6, 5), (11, 1), (11, 2), (11, 3), (11, 4), (11, 5), (11, 6), (12, 1), (12, 9), (33, (-1)), (34, (-1)), (37, (-1)), (63, (-1)), (64, (-1)), (99, 0)]) hE0 (fr_tr f_20 rfl (fr_tr f_13 rfl fr_rf)) rfl hF0
        refine W.widen (k := 2) (n := 12060) (Nat.le_of_ble_eq_true rfl) (Nat.le_of_ble_eq_true rfl) ?_
        rw [← hQ]
        exact W.iret (v := iI (-1)) hx hb hr (fun t ht hW => ⟨⟨iI (-1), (L, K, N, v_19), rfl, ⟨(-1), rfl, I_21, hE0, F_49, by omega⟩, by rw [ht]; exact hP, va_K.moved hW.alike hK, hD⟩, hS.F ht⟩) hS.2.2 dX12_set_33
    · refine lv_iconst (v := iI (-1)) hx hb dX12_set_18 rfl ?_
      refine W.widen (k := 2) (n := 12060) (Nat.le_of_ble_eq_true rfl) (Nat.le_of_ble_eq_true rfl) ?_
      rw [← hQ]
      exact W.iret (v := iI (-1)) hx hb hr (fun t ht hW => ⟨⟨iI (-1), (L, K, N, v), rfl, ⟨(-1), rfl, hI, hE0, hF0, by omega⟩, by rw [ht]; exact hP, va_K.moved hW.alike hK, hD⟩, hS.F ht⟩) hS.2.2 dX12_set_19
