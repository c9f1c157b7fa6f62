set_option maxHeartbeats 2000000 in
set_option maxRecDepth 100000 in
theorem sX12_subscribe (l : Launch) (dC : Nat → ClassId) (dI : Nat → Nat → Nat) (sz : Nat) (L : List Nat) (cid : Nat → ClassId) (K : Int → Nat) (N : Int → Int) (tW : Nat) (sK sV : Nat → Nat) (v : Int → Int → Int) (p0 : Int) (p1 : Int) (p2 : Int) (p3 : Int) (hI : xI L K N v) (q0 : ok L K p0 12) (q1 : rg p1) (q2 : rg p2) (q3 : rg p3) : Met l yX12_subscribe (jk yX12_subscribe cX12_subscribe 4 (some .boolean)) ({ frames := 1, cells := 0, slots := 0, locals := 21 }) (va_Pc [.ref p0.toNat, .int (iI p1), .int (iI p2), .int (iI p3)] (xP (dC, dI) (xG L cid K N v) (xT cid) tW sK sV sz)) (va_Qi (fun (r : Int32) (u : (Int → Int → Int)) => ∃ z : Int, r = iI z ∧ (xI L K N u) ∧ (fr K [(40, (-1)), (41, (-1))] u v) ∧ (0 ≤ z ∧ z ≤ 1) ∧ ((z = 0 ∧ (p1 < 0 ∨ 9 < p1 ∨ p2 < 0 ∨ 5 < p2 ∨ p3 < 1 ∨ 999 < p3 ∨ v (v p0 15) p1 ≠ -1)) ∨ (z = 1 ∧ 0 ≤ p1 ∧ p1 ≤ 9 ∧ 0 ≤ p2 ∧ p2 ≤ 5 ∧ 1 ≤ p3 ∧ p3 ≤ 999 ∧ v (v p0 15) p1 = -1)) ∧ (z = 0 → u = v) ∧ (z = 1 → u = vu (vu v (v p0 15) p1 p2) (v p0 16) p1 p3)) (fun u t => va_P (dC, dI) vwCl (xG L cid K N u) t.heap ∧ va_K (dC, dI) vwCl (xT cid) t ∧ va_D (va_A (xG L cid K N v) sz) (xG L cid K N u)) (va_A (xG L cid K N v) sz)) 0 0 (va_A (xG L cid K N v) sz) := by
  refine Met.ofW (cc := cX12_subscribe) (maxL := 4) (ret := (some .boolean)) (by decide) rfl ?_
  intro p e s m args below meth c s₁ B hml hv
  obtain ⟨rfl, ⟨hsz, hP, hK, hD0⟩, hX⟩ := hv
  have hx := B.exec
  have hb := B.bytes
  have hr := B.returns
  have hts := atoms_spec (ws := (jk yX12_subscribe cX12_subscribe 4 (some .boolean))) B.pre
  have hj : ∀ w ∈ jw, w.before ([.ref p0.toNat, .int (iI p1), .int (iI p2), .int (iI p3)] : List Value).toArray s = true := fun w h => hts w (jm h)
  have hown : s.vm.findClass RX12 = some m.cls := findClass_of_methodNamed B.named
  subst hsz
  have hD := hD0.self (sz := s.heap.size)
  generalize hAe : (va_A (xG L cid K N v) s.heap.size) = A at hD hX ⊢
  have hA : ∀ q : Nat, s.heap.size ≤ q → A q := fun q h => by rw [← hAe]; exact Or.inr h
  have hS : va_S A s.heap s.heap [] := va_S.rf
  have hXa := hX
  have hP : va_P (dC, dI) vwCl (xG L cid K N v) s.heap := hP
  have hl := lv_entry ([.ref p0.toNat, .int (iI p1), .int (iI p2), .int (iI p3)]) (n := 4) (Nat.le_of_ble_eq_true rfl)
  rw [lg_entry_eq]
  generalize (lg_sl ([.ref p0.toNat, .int (iI p1), .int (iI p2), .int (iI p3)]) ++ List.replicate (4 - (lg_sl ([.ref p0.toNat, .int (iI p1), .int (iI p2), .int (iI p3)])).length) Slot.unset).toArray = ls at hl ⊢
  have hl : lv_has ls 4 [(0, .ref p0.toNat), (1, .int (iI p1)), (2, .int (iI p2)), (3, .int (iI p3))] := hl
  generalize hQ : MQ below (va_Qi (fun (r : Int32) (u : (Int → Int → Int)) => ∃ z : Int, r = iI z ∧ (xI L K N u) ∧ (fr K [(40, (-1)), (41, (-1))] u v) ∧ (0 ≤ z ∧ z ≤ 1) ∧ ((z = 0 ∧ (p1 < 0 ∨ 9 < p1 ∨ p2 < 0 ∨ 5 < p2 ∨ p3 < 1 ∨ 999 < p3 ∨ v (v p0 15) p1 ≠ -1)) ∨ (z = 1 ∧ 0 ≤ p1 ∧ p1 ≤ 9 ∧ 0 ≤ p2 ∧ p2 ≤ 5 ∧ 1 ≤ p3 ∧ p3 ≤ 999 ∧ v (v p0 15) p1 = -1)) ∧ (z = 0 → u = v) ∧ (z = 1 → u = vu (vu v (v p0 15) p1 p2) (v p0 16) p1 p3)) (fun u t => va_P (dC, dI) vwCl (xG L cid K N u) t.heap ∧ va_K (dC, dI) vwCl (xT cid) t ∧ va_D A (xG L cid K N u)) A) ([.ref p0.toNat, .int (iI p1), .int (iI p2), .int (iI p3)] : List Value).toArray s 0 0 A = Q
  suffices ST : ∀ (H : Heap) (locs : List Loc), va_P (dC, dI) vwCl (xG L cid K N v) H → va_S A s.heap H locs → W p l e ({ frames := 1, cells := 0, slots := 0, locals := 21 }) s m ([.ref p0.toNat, .int (iI p1), .int (iI p2), .int (iI p3)] : List Value).toArray below meth c H locs 0 0 Q (F0 m 0 ls []) from ST _ _ hP hS
  clear hP hS
  intro H locs hP hS
  refine lv_aload_n hx hb dX12_subscribe_0 rfl (lv_at hl 0 rfl) ?_
  refine lv_iload_n hx hb dX12_subscribe_1 rfl (lv_at hl 1 rfl) ?_
  refine jc_i (va_runV (As := [.int (iI p1)]) (rest := []) ⟨hx, hb, hml, hown, hts⟩ (sX12_isSubscriber l dC dI _ p0 p1 (by omega)) (cwV 1 hts (jgoodV m_1170 m_1171 m_1172 m_873 m_1173) rfl rfl rfl (by decide +kernel) ⟨(Nat.le_of_ble_eq_true rfl), (Nat.le_of_ble_eq_true rfl)⟩) ⟨jw_blind0, xrecv hK hP q0 rfl rfl, fun U hU hW => ⟨rfl, congrArg Array.size hU⟩⟩ rfl rfl hl.1 rfl (lv_room (Nat.le_of_ble_eq_true rfl)) dX12_subscribe_2 ⟨(Nat.le_of_ble_eq_true rfl), (Nat.le_of_ble_eq_true rfl)⟩) hP hS hA (fun r_1 H locs w_2 hP hS => ?_)
  obtain ⟨z_3, rfl, h_4, h_5⟩ := w_2
  refine xr_if_eq (tgt := 38) hx hb dX12_subscribe_5 (by decide) (by omega) (fun h_6 => ?_) (fun h_6 => ?_)
  · refine lv_iconst (v := iI 0) hx hb dX12_subscribe_38 rfl ?_
    have h_7 : ok L K (v p0 15) 40 := xf_12_15 hI q0
    have h_8 : N (v p0 15) = 10 := xn_40 hI h_7
    have h_9 : 0 ≤ p1 → (-2147483648) ≤ v (v p0 15) p1 ∧ v (v p0 15) p1 ≤ 2147483647 := fun h9 => xe_40 hI h_7 h9
    have h_10 : ok L K (v p0 16) 41 := xf_12_16 hI q0
    have h_11 : N (v p0 16) = 10 := xn_41 hI h_10
    rw [← hQ]
    exact W.zret (v := iI 0) (ty := .boolean) hx hb hr (nb_bool (by omega) (by omega)) (fun t ht hW => ⟨⟨iI 0, v, rfl, ⟨0, rfl, hI, fr_rf, by omega, by omega, fun hz9 => by first | (exfalso; omega) | (rfl), fun hz9 => by first | (exfalso; omega) | (rfl)⟩, by rw [ht]; exact hP, va_K.moved hW.alike hK, hD⟩, hS.F ht⟩) hS.2.2 dX12_subscribe_39
  · refine lv_aload_n hx hb dX12_subscribe_8 rfl (lv_at hl 0 rfl) ?_
    refine lv_iload_n hx hb dX12_subscribe_9 rfl (lv_at hl 2 rfl) ?_
    refine jc_i (va_runV (As := [.int (iI p2)]) (rest := []) ⟨hx, hb, hml, hown, hts⟩ (sX12_isVolume l dC dI _ p0 p2 (by omega)) (cwV 1 hts (jgoodV m_985 m_986 m_987 m_873 m_988) rfl rfl rfl (by decide +kernel) ⟨(Nat.le_of_ble_eq_true rfl), (Nat.le_of_ble_eq_true rfl)⟩) ⟨jw_blind0, xrecv hK hP q0 rfl rfl, fun U hU hW => ⟨rfl, congrArg Array.size hU⟩⟩ rfl rfl hl.1 rfl (lv_room (Nat.le_of_ble_eq_true rfl)) dX12_subscribe_10 ⟨(Nat.le_of_ble_eq_true rfl), (Nat.le_of_ble_eq_true rfl)⟩) hP hS hA (fun r_12 H locs w_13 hP hS => ?_)
    obtain ⟨z_14, rfl, h_15, h_16⟩ := w_13
    refine xr_if_eq (tgt := 38) hx hb dX12_subscribe_13 (by decide) (by omega) (fun h_17 => ?_) (fun h_17 => ?_)
    · refine lv_iconst (v := iI 0) hx hb dX12_subscribe_38 rfl ?_
      have h_18 : ok L K (v p0 15) 40 := xf_12_15 hI q0
      have h_19 : N (v p0 15) = 10 := xn_40 hI h_18
      have h_20 : 0 ≤ p1 → (-2147483648) ≤ v (v p0 15) p1 ∧ v (v p0 15) p1 ≤ 2147483647 := fun h9 => xe_40 hI h_18 h9
      have h_21 : ok L K (v p0 16) 41 := xf_12_16 hI q0
      have h_22 : N (v p0 16) = 10 := xn_41 hI h_21
      rw [← hQ]
      exact W.zret (v := iI 0) (ty := .boolean) hx hb hr (nb_bool (by omega) (by omega)) (fun t ht hW => ⟨⟨iI 0, v, rfl, ⟨0, rfl, hI, fr_rf, by omega, by omega, fun hz9 => by first | (exfalso; omega) | (rfl), fun hz9 => by first | (exfalso; omega) | (rfl)⟩, by rw [ht]; exact hP, va_K.moved hW.alike hK, hD⟩, hS.F ht⟩) hS.2.2 dX12_subscribe_39
    · refine lv_iload_n hx hb dX12_subscribe_16 rfl (lv_at hl 3 rfl) ?_
      refine lv_iconst (v := iI 1) hx hb dX12_subscribe_17 rfl ?_
      refine xr_icmp_lt (tgt := 38) hx hb dX12_subscribe_18 (by decide) (by omega) (by omega) (fun h_23 => ?_) (fun h_23 => ?_)
      · refine lv_iconst (v := iI 0) hx hb dX12_subscribe_38 rfl ?_
        have h_24 : ok L K (v p0 15) 40 := xf_12_15 hI q0
        have h_25 : N (v p0 15) = 10 := xn_40 hI h_24
        have h_26 : 0 ≤ p1 → (-2147483648) ≤ v (v p0 15) p1 ∧ v (v p0 15) p1 ≤ 2147483647 := fun h9 => xe_40 hI h_24 h9
        have h_27 : ok L K (v p0 16) 41 := xf_12_16 hI q0
        have h_28 : N (v p0 16) = 10 := xn_41 hI h_27
        rw [← hQ]
        exact W.zret (v := iI 0) (ty := .boolean) hx hb hr (nb_bool (by omega) (by omega)) (fun t ht hW => ⟨⟨iI 0, v, rfl, ⟨0, rfl, hI, fr_rf, by omega, by omega, fun hz9 => by first | (exfalso; omega) | (rfl), fun hz9 => by first | (exfalso; omega) | (rfl)⟩, by rw [ht]; exact hP, va_K.moved hW.alike hK, hD⟩, hS.F ht⟩) hS.2.2 dX12_subscribe_39
      · refine lv_iload_n hx hb dX12_subscribe_21 rfl (lv_at hl 3 rfl) ?_
        refine lv_sipush (v := iI 999) hx hb dX12_subscribe_22 rfl ?_
        refine xr_icmp_gt (tgt := 38) hx hb dX12_subscribe_25 (by decide) (by omega) (by omega) (fun h_29 => ?_) (fun h_29 => ?_)
        · refine lv_iconst (v := iI 0) hx hb dX12_subscribe_38 rfl ?_
          have h_30 : ok L K (v p0 15) 40 := xf_12_15 hI q0
          have h_31 : N (v p0 15) = 10 := xn_40 hI h_30
          have h_32 : 0 ≤ p1 → (-2147483648) ≤ v (v p0 15) p1 ∧ v (v p0 15) p1 ≤ 2147483647 := fun h9 => xe_40 hI h_30 h9
          have h_33 : ok L K (v p0 16) 41 := xf_12_16 hI q0
          have h_34 : N (v p0 16) = 10 := xn_41 hI h_33
          rw [← hQ]
          exact W.zret (v := iI 0) (ty := .boolean) hx hb hr (nb_bool (by omega) (by omega)) (fun t ht hW => ⟨⟨iI 0, v, rfl, ⟨0, rfl, hI, fr_rf, by omega, by omega, fun hz9 => by first | (exfalso; omega) | (rfl), fun hz9 => by first | (exfalso; omega) | (rfl)⟩, by rw [ht]; exact hP, va_K.moved hW.alike hK, hD⟩, hS.F ht⟩) hS.2.2 dX12_subscribe_39
        · refine lv_aload_n hx hb dX12_subscribe_28 rfl (lv_at hl 0 rfl) ?_
          have h_35 : ok L K (v p0 15) 40 := xf_12_15 hI q0
          have h_36 : N (v p0 15) = 10 := xn_40 hI h_35
          refine gx_RX12_70 (y := v p0 15) hx hb hj hown hK hP q0 ((xf_12_15 hI q0).1) rfl dX12_subscribe_29 ?_
          refine lv_iload_n hx hb dX12_subscribe_32 rfl (lv_at hl 1 rfl) ?_
          have h_37 : (-2147483648) ≤ v (v p0 15) p1 ∧ v (v p0 15) p1 ≤ 2147483647 := xe_40 hI h_35 (by omega)
          refine ax_40 (y := v (v p0 15) p1) hx hb hK hP h_35 (by omega) (by omega) (by omega) rfl dX12_subscribe_33 ?_
          refine lv_iconst (v := iI (-1)) hx hb dX12_subscribe_34 rfl ?_
          refine xr_icmp_eq (tgt := 40) hx hb dX12_subscribe_35 (by decide) (by omega) (by omega) (fun h_38 => ?_) (fun h_38 => ?_)
          · refine lv_aload_n hx hb dX12_subscribe_40 rfl (lv_at hl 0 rfl) ?_
            refine gx_RX12_70 (y := v p0 15) hx hb hj hown hK hP q0 ((xf_12_15 hI q0).1) rfl dX12_subscribe_41 ?_
            refine lv_iload_n hx hb dX12_subscribe_44 rfl (lv_at hl 1 rfl) ?_
            refine lv_iload_n hx hb dX12_subscribe_45 rfl (lv_at hl 2 rfl) ?_
            refine sx_40 (y := p2) hx hb hK hP hD hS hI h_35 (by omega) (by omega) (by omega) ⟨by omega, by omega⟩ dX12_subscribe_46 (fun v_39 H locs f_40 e_41 o_42 I_43 hP hD hS => ?_)
            refine lv_aload_n hx hb dX12_subscribe_47 rfl (lv_at hl 0 rfl) ?_
            have h_44 : ok L K (v p0 16) 41 := xf_12_16 hI q0
            have h_45 : N (v p0 16) = 10 := xn_41 hI h_44
            refine gx_RX12_73 (y := v p0 16) hx hb hj hown hK hP q0 ((xf_12_16 I_43 q0).1) (fr_use q0 f_40 rfl) dX12_subscribe_48 ?_
            refine lv_iload_n hx hb dX12_subscribe_51 rfl (lv_at hl 1 rfl) ?_
            refine lv_iload_n hx hb dX12_subscribe_52 rfl (lv_at hl 3 rfl) ?_
            refine sx_41 (y := p3) hx hb hK hP hD hS I_43 h_44 (by omega) (by omega) (by omega) ⟨by omega, by omega⟩ dX12_subscribe_53 (fun v_46 H locs f_47 e_48 o_49 I_50 hP hD hS => ?_)
            refine lv_iconst (v := iI 1) hx hb dX12_subscribe_54 rfl ?_
            rw [← hQ]
            exact W.zret (v := iI 1) (ty := .boolean) hx hb hr (nb_bool (by omega) (by omega)) (fun t ht hW => ⟨⟨iI 1, v_46, rfl, ⟨1, rfl, I_50, (fr_tr f_47 rfl (fr_tr f_40 rfl fr_rf)), by omega, by omega, fun hz9 => by first | (exfalso; omega) | (rw [vu_of e_48 o_49]; rw [vu_of e_41 o_42]; first | done | (congr <;> omega)), fun hz9 => by first | (exfalso; omega) | (rw [vu_of e_48 o_49]; rw [vu_of e_41 o_42]; first | done | (congr <;> omega))⟩, by rw [ht]; exact hP, va_K.moved hW.alike hK, hD⟩, hS.F ht⟩) hS.2.2 dX12_subscribe_55
          · refine lv_iconst (v := iI 0) hx hb dX12_subscribe_38 rfl ?_
            have h_51 : ok L K (v p0 16) 41 := xf_12_16 hI q0
            have h_52 : N (v p0 16) = 10 := xn_41 hI h_51
            rw [← hQ]
            exact W.zret (v := iI 0) (ty := .boolean) hx hb hr (nb_bool (by omega) (by omega)) (fun t ht hW => ⟨⟨iI 0, v, rfl, ⟨0, rfl, hI, fr_rf, by omega, by omega, fun hz9 => by first | (exfalso; omega) | (rfl), fun hz9 => by first | (exfalso; omega) | (rfl)⟩, by rw [ht]; exact hP, va_K.moved hW.alike hK, hD⟩, hS.F ht⟩) hS.2.2 dX12_subscribe_39
set_option maxHeartbeats 2000000 in
set_option maxRecDepth 100000 in
theorem sX12_owed (l : Launch) (dC : Nat → ClassId) (dI : Nat → Nat → Nat) (sz : Nat) (L : List Nat) (cid : Nat → ClassId) (K : Int → Nat) (N : Int → Int) (tW : Nat) (sK sV : Nat → Nat) (v : Int → Int → Int) (p0 : Int) (p1 : Int) (p2 : Int) (hI : xI L K N v) (q0 : ok L K p0 12) (q1 : rg p1) (q2 : rg p2) : Met l yX12_owed (jk yX12_owed cX12_owed 5 (some .int)) ({ frames := 4, cells := 0, slots := 0, locals := 115 }) (va_Pc [.ref p0.toNat, .int (iI p1), .int (iI p2)] (xP (dC, dI) (xG L cid K N v) (xT cid) tW sK sV sz)) (va_Qi (fun (r : Int32) (u : (Int → Int → Int)) => ∃ z : Int, r = iI z ∧ (xI L K N u) ∧ (fr K [(33, (-1)), (34, (-1))] u v) ∧ (rg z)) (fun u t => va_P (dC, dI) vwCl (xG L cid K N u) t.heap ∧ va_K (dC, dI) vwCl (xT cid) t ∧ va_D (va_A (xG L cid K N v) sz) (xG L cid K N u)) (va_A (xG L cid K N v) sz)) 0 0 (va_A (xG L cid K N v) sz) := by
  refine Met.ofW (cc := cX12_owed) (maxL := 5) (ret := (some .int)) (by decide) rfl ?_
  intro p e s m args below meth c s₁ B hml hv
  obtain ⟨rfl, ⟨hsz, hP, hK, hD0⟩, hX⟩ := hv
  have hx := B.exec
  have hb := B.bytes
  have hr := B.returns
  have hts := atoms_spec (ws := (jk yX12_owed cX12_owed 5 (some .int))) B.pre
  have hj : ∀ w ∈ jw, w.before ([.ref p0.toNat, .int (iI p1), .int (iI p2)] : List Value).toArray s = true := fun w h => hts w (jm h)
  have hown : s.vm.findClass RX12 = some m.cls := findClass_of_methodNamed B.named
  subst hsz
  have hD := hD0.self (sz := s.heap.size)
  generalize hAe : (va_A (xG L cid K N v) s.heap.size) = A at hD hX ⊢
  have hA : ∀ q : Nat, s.heap.size ≤ q → A q := fun q h => by rw [← hAe]; exact Or.inr h
  have hS : va_S A s.heap s.heap [] := va_S.rf
  have hXa := hX
  have hP : va_P (dC, dI) vwCl (xG L cid K N v) s.heap := hP
  have hl := lv_entry ([.ref p0.toNat, .int (iI p1), .int (iI p2)]) (n := 5) (Nat.le_of_ble_eq_true rfl)
  rw [lg_entry_eq]
  generalize (lg_sl ([.ref p0.toNat, .int (iI p1), .int (iI p2)]) ++ List.replicate (5 - (lg_sl ([.ref p0.toNat, .int (iI p1), .int (iI p2)])).length) Slot.unset).toArray = ls at hl ⊢
  have hl : lv_has ls 5 [(0, .ref p0.toNat), (1, .int (iI p1)), (2, .int (iI p2))] := hl
  generalize hQ : MQ below (va_Qi (fun (r : Int32) (u : (Int → Int → Int)) => ∃ z : Int, r = iI z ∧ (xI L K N u) ∧ (fr K [(33, (-1)), (34, (-1))] u v) ∧ (rg z)) (fun u t => va_P (dC, dI) vwCl (xG L cid K N u) t.heap ∧ va_K (dC, dI) vwCl (xT cid) t ∧ va_D A (xG L cid K N u)) A) ([.ref p0.toNat, .int (iI p1), .int (iI p2)] : List Value).toArray s 0 0 A = Q
  suffices ST : ∀ (H : Heap) (locs : List Loc), va_P (dC, dI) vwCl (xG L cid K N v) H → va_S A s.heap H locs → W p l e ({ frames := 4, cells := 0, slots := 0, locals := 115 }) s m ([.ref p0.toNat, .int (iI p1), .int (iI p2)] : List Value).toArray below meth c H locs 0 0 Q (F0 m 0 ls []) from ST _ _ hP hS
  clear hP hS
  intro H locs hP hS
  refine lv_aload_n hx hb dX12_owed_0 rfl (lv_at hl 0 rfl) ?_
  refine lv_iload_n hx hb dX12_owed_1 rfl (lv_at hl 2 rfl) ?_
  refine jc_q (va_runV (As := [.int (iI p2)]) (rest := []) ⟨hx, hb, hml, hown, hts⟩ (sX12_setVolumeAt l dC dI _ L cid K N tW sK sV v p0 p2 hI q0 (by omega)) (cwV 1 hts (jgoodV m_1174 m_1175 m_1176 m_873 m_1177) rfl rfl rfl (by decide +kernel) ⟨(Nat.le_of_ble_eq_true rfl), (Nat.le_of_ble_eq_true rfl)⟩) ⟨xP_blind, xrecv hK hP q0 rfl rfl, fun U hU hW => ⟨rfl, xP_of hU hW hP hK hD hX hS (fun _ h => h) hA⟩⟩ rfl rfl hl.1 rfl (lv_room (Nat.le_of_ble_eq_true rfl)) dX12_owed_2 ⟨(Nat.le_of_ble_eq_true rfl), (Nat.le_of_ble_eq_true rfl)⟩) hP hS hA (fun r_1 H locs w_2 hP hS => ?_)
  obtain ⟨z_3, rfl, h_4⟩ := w_2
  refine jt_q (rv z_3) rfl ?_
  refine xq_astore_n (i := 3) (lv' := [(3, rv z_3), (0, .ref p0.toNat), (1, .int (iI p1)), (2, .int (iI p2))]) hx hb dX12_owed_5 rfl hl (by decide) rfl (fun ls hl => ?_)
  refine xq_aload_n hx hb dX12_owed_6 rfl (lv_at hl 0 rfl) ?_
  refine xq_ifnull (tgt := 38) hx hb dX12_owed_7 (by decide) (fun h_5 => ?_) (fun h_5 => ?_)
  · refine lv_iconst (v := iI (-1)) hx hb dX12_owed_38 rfl ?_
    rw [← hQ]
    exact W.iret (v := iI (-1)) hx hb hr (fun t ht hW => ⟨⟨iI (-1), v, rfl, ⟨(-1), rfl, hI, fr_rf, by omega⟩, by rw [ht]; exact hP, va_K.moved hW.alike hK, hD⟩, hS.F ht⟩) hS.2.2 dX12_owed_39
  · have h_6 : ok L K z_3 11 := h_4.resolve_left (by omega)
    refine lv_aload_n hx hb dX12_owed_10 rfl (lv_at hl 1 rfl) ?_
    refine lv_iload_n hx hb dX12_owed_11 rfl (lv_at hl 2 rfl) ?_
    refine jc_i (va_runV (As := [.int (iI p1)]) (rest := []) ⟨hx, hb, hml, hown, hts⟩ (sX12_isSubscriber l dC dI _ p0 p1 (by omega)) (cwV 1 hts (jgoodV m_1170 m_1171 m_1172 m_873 m_1173) rfl rfl rfl (by decide +kernel) ⟨(Nat.le_of_ble_eq_true rfl), (Nat.le_of_ble_eq_true rfl)⟩) ⟨jw_blind0, xrecv hK hP q0 rfl rfl, fun U hU hW => ⟨rfl, congrArg Array.size hU⟩⟩ rfl rfl hl.1 rfl (lv_room (Nat.le_of_ble_eq_true rfl)) dX12_owed_12 ⟨(Nat.le_of_ble_eq_true rfl), (Nat.le_of_ble_eq_true rfl)⟩) hP hS hA (fun r_7 H locs w_8 hP hS => ?_)
    obtain ⟨z_9, rfl, h_10, h_11⟩ := w_8
    refine xr_if_eq (tgt := 38) hx hb dX12_owed_15 (by decide) (by omega) (fun h_12 => ?_) (fun h_12 => ?_)
    · refine lv_iconst (v := iI (-1)) hx hb dX12_owed_38 rfl ?_
      rw [← hQ]
      exact W.iret (v := iI (-1)) hx hb hr (fun t ht hW => ⟨⟨iI (-1), v, rfl, ⟨(-1), rfl, hI, fr_rf, by omega⟩, by rw [ht]; exact hP, va_K.moved hW.alike hK, hD⟩, hS.F ht⟩) hS.2.2 dX12_owed_39
    · refine lv_aload_n hx hb dX12_owed_18 rfl (lv_at hl 1 rfl) ?_
      have h_13 : ok L K (v p0 15) 40 := xf_12_15 hI q0
      have h_14 : N (v p0 15) = 10 := xn_40 hI h_13
      refine gx_RX12_70 (y := v p0 15) hx hb hj hown hK hP q0 ((xf_12_15 hI q0).1) rfl dX12_owed_19 ?_
      refine lv_iload_n hx hb dX12_owed_22 rfl (lv_at hl 2 rfl) ?_
      have h_15 : (-2147483648) ≤ v (v p0 15) p1 ∧ v (v p0 15) p1 ≤ 2147483647 := xe_40 hI h_13 (by omega)
      refine ax_40 (y := v (v p0 15) p1) hx hb hK hP h_13 (by omega) (by omega) (by omega) rfl dX12_owed_23 ?_
      refine lv_iconst (v := iI (-1)) hx hb dX12_owed_24 rfl ?_
      refine xr_icmp_eq (tgt := 38) hx hb dX12_owed_25 (by decide) (by omega) (by omega) (fun h_16 => ?_) (fun h_16 => ?_)
      · refine lv_iconst (v := iI (-1)) hx hb dX12_owed_38 rfl ?_
        rw [← hQ]
        exact W.iret (v := iI (-1)) hx hb hr (fun t ht hW => ⟨⟨iI (-1), v, rfl, ⟨(-1), rfl, hI, fr_rf, by omega⟩, by rw [ht]; exact hP, va_K.moved hW.alike hK, hD⟩, hS.F ht⟩) hS.2.2 dX12_owed_39
      · refine lv_iload_n hx hb dX12_owed_28 rfl (lv_at hl 3 rfl) ?_
        refine lv_aload_n hx hb dX12_owed_29 rfl (lv_at hl 1 rfl) ?_
        refine gx_RX12_70 (y := v p0 15) hx hb hj hown hK hP q0 ((xf_12_15 hI q0).1) rfl dX12_owed_30 ?_
        refine lv_iload_n hx hb dX12_owed_33 rfl (lv_at hl 2 rfl) ?_
        refine ax_40 (y := v (v p0 15) p1) hx hb hK hP h_13 (by omega) (by omega) (by omega) rfl dX12_owed_34 ?_
        refine xr_icmp_ge (tgt := 40) hx hb dX12_owed_35 (by decide) (by omega) (by omega) (fun h_17 => ?_) (fun h_17 => ?_)
        · refine lv_aload_n hx hb dX12_owed_40 rfl (lv_at hl 1 rfl) ?_
          have h_18 : ok L K (v p0 3) 8 := xf_12_3 hI q0
          refine gx_RX12_19 (y := v p0 3) hx hb hj hown hK hP q0 ((xf_12_3 hI q0).1) rfl dX12_owed_41 ?_
          refine jcg_v (va_runV (As := []) (rest := []) ⟨hx, hb, hml, hown, hts⟩ (sX8_forgetNames l dC dI _ L cid K N tW sK sV v (v p0 3) hI h_18) (cwV 0 hts (jgoodV m_1178 m_1179 m_1180 m_928 m_1181) rfl rfl rfl (by decide +kernel) ⟨(Nat.le_of_ble_eq_true rfl), (Nat.le_of_ble_eq_true rfl)⟩) ⟨xP_blind, xrecv hK hP h_18 rfl rfl, fun U hU hW => ⟨rfl, xP_of hU hW hP hK hD hX hS (fun _ h => h) hA⟩⟩ rfl rfl hl.1 rfl (lv_room (Nat.le_of_ble_eq_true rfl)) dX12_owed_44 ⟨(Nat.le_of_ble_eq_true rfl), (Nat.le_of_ble_eq_true rfl)⟩) hD hS hA (fun v_22 H locs w_20 hP hK hD hS => ?_)
          obtain ⟨I_24, f_23⟩ := w_20
          have hP : va_P (dC, dI) vwCl (xG L cid K N v_22) H := hP
          have hD : va_D A (xG L cid K N v_22) := hD
          refine lv_aload_n hx hb dX12_owed_47 rfl (lv_at hl 1 rfl) ?_
          refine gx_RX12_19 (y := v p0 3) hx hb hj hown hK hP q0 ((xf_12_3 I_24 q0).1) (fr_use q0 f_23 rfl) dX12_owed_48 ?_
          refine lv_bipush (v := iI 8) hx hb dX12_owed_51 rfl ?_
          refine xq_aload_n hx hb dX12_owed_53 rfl (lv_at hl 0 rfl) ?_
          refine jt_q (.ref z_3.toNat) (rv_ref (h_6).1) ?_
          have h_25 : (-2147483648) ≤ v z_3 6 ∧ v z_3 6 ≤ 2147483647 := xf_11_6 hI h_6
          refine gx_RX12_465 (y := v z_3 6) hx hb hj hown hK hP h_6 (fr_use h_6 f_23 rfl) dX12_owed_54 ?_
          refine jcg_v (va_runV (As := [.int (iI 8), .int (iI (v z_3 6))]) (rest := []) ⟨hx, hb, hml, hown, hts⟩ (sX8_name l dC dI _ L cid K N tW sK sV v_22 (v p0 3) 8 (v z_3 6) I_24 h_18 (by omega) (by omega)) (cwV 2 hts (jgoodV m_1068 m_1069 m_1070 m_928 m_1071) rfl rfl rfl (by decide +kernel) ⟨(Nat.le_of_ble_eq_true rfl), (Nat.le_of_ble_eq_true rfl)⟩) ⟨xP_blind, xrecv hK hP h_18 rfl rfl, fun U hU hW => ⟨rfl, xP_of hU hW hP hK hD hX hS (fun _ h => h) hA⟩⟩ rfl rfl hl.1 rfl (lv_room (Nat.le_of_ble_eq_true rfl)) dX12_owed_57 ⟨(Nat.le_of_ble_eq_true rfl), (Nat.le_of_ble_eq_true rfl)⟩) hD hS hA (fun v_29 H locs w_27 hP hK hD hS => ?_)
          obtain ⟨I_31, f_30⟩ := w_27
          have hP : va_P (dC, dI) vwCl (xG L cid K N v_29) H := hP
          have hD : va_D A (xG L cid K N v_29) := hD
          refine lv_aload_n hx hb dX12_owed_60 rfl (lv_at hl 1 rfl) ?_
          refine gx_RX12_19 (y := v p0 3) hx hb hj hown hK hP q0 ((xf_12_3 I_31 q0).1) (((fr_use q0 f_30 rfl)).trans (fr_use q0 f_23 rfl)) dX12_owed_61 ?_
          refine lv_iconst (v := iI 1) hx hb dX12_owed_64 rfl ?_
          refine xq_aload_n hx hb dX12_owed_65 rfl (lv_at hl 0 rfl) ?_
          refine jt_q (.ref z_3.toNat) (rv_ref (h_6).1) ?_
          have h_32 : (-2147483648) ≤ v z_3 5 ∧ v z_3 5 ≤ 2147483647 := xf_11_5 hI h_6
          refine gx_RX12_450 (y := v z_3 5) hx hb hj hown hK hP h_6 (((fr_use h_6 f_30 rfl)).trans (fr_use h_6 f_23 rfl)) dX12_owed_66 ?_
          refine jcg_v (va_runV (As := [.int (iI 1), .int (iI (v z_3 5))]) (rest := []) ⟨hx, hb, hml, hown, hts⟩ (sX8_name l dC dI _ L cid K N tW sK sV v_29 (v p0 3) 1 (v z_3 5) I_31 h_18 (by omega) (by omega)) (cwV 2 hts (jgoodV m_1068 m_1069 m_1070 m_928 m_1071) rfl rfl rfl (by decide +kernel) ⟨(Nat.le_of_ble_eq_true rfl), (Nat.le_of_ble_eq_true rfl)⟩) ⟨xP_blind, xrecv hK hP h_18 rfl rfl, fun U hU hW => ⟨rfl, xP_of hU hW hP hK hD hX hS (fun _ h => h) hA⟩⟩ rfl rfl hl.1 rfl (lv_room (Nat.le_of_ble_eq_true rfl)) dX12_owed_69 ⟨(Nat.le_of_ble_eq_true rfl), (Nat.le_of_ble_eq_true rfl)⟩) hD hS hA (fun v_36 H locs w_34 hP hK hD hS => ?_)
          obtain ⟨I_38, f_37⟩ := w_34
          have hP : va_P (dC, dI) vwCl (xG L cid K N v_36) H := hP
          have hD : va_D A (xG L cid K N v_36) := hD
          refine lv_aload_n hx hb dX12_owed_72 rfl (lv_at hl 1 rfl) ?_
          refine gx_RX12_19 (y := v p0 3) hx hb hj hown hK hP q0 ((xf_12_3 I_38 q0).1) (((fr_use q0 f_37 rfl)).trans (((fr_use q0 f_30 rfl)).trans (fr_use q0 f_23 rfl))) dX12_owed_73 ?_
          refine lv_bipush (v := iI 7) hx hb dX12_owed_76 rfl ?_
          refine lv_iload_n hx hb dX12_owed_78 rfl (lv_at hl 3 rfl) ?_
          refine jcg_v (va_runV (As := [.int (iI 7), .int (iI p2)]) (rest := []) ⟨hx, hb, hml, hown, hts⟩ (sX8_name l dC dI _ L cid K N tW sK sV v_36 (v p0 3) 7 p2 I_38 h_18 (by omega) (by omega)) (cwV 2 hts (jgoodV m_1068 m_1069 m_1070 m_928 m_1071) rfl rfl rfl (by decide +kernel) ⟨(Nat.le_of_ble_eq_true rfl), (Nat.le_of_ble_eq_true rfl)⟩) ⟨xP_blind, xrecv hK hP h_18 rfl rfl, fun U hU hW => ⟨rfl, xP_of hU hW hP hK hD hX hS (fun _ h => h) hA⟩⟩ rfl rfl hl.1 rfl (lv_room (Nat.le_of_ble_eq_true rfl)) dX12_owed_79 ⟨(Nat.le_of_ble_eq_true rfl), (Nat.le_of_ble_eq_true rfl)⟩) hD hS hA (fun v_42 H locs w_40 hP hK hD hS => ?_)
          obtain ⟨I_44, f_43⟩ := w_40
          have hP : va_P (dC, dI) vwCl (xG L cid K N v_42) H := hP
          have hD : va_D A (xG L cid K N v_42) := hD
          refine lv_aload_n hx hb dX12_owed_82 rfl (lv_at hl 1 rfl) ?_
          refine gx_RX12_19 (y := v p0 3) hx hb hj hown hK hP q0 ((xf_12_3 I_44 q0).1) (((fr_use q0 f_43 rfl)).trans (((fr_use q0 f_37 rfl)).trans (((fr_use q0 f_30 rfl)).trans (fr_use q0 f_23 rfl)))) dX12_owed_83 ?_
          refine lv_iconst (v := iI 4) hx hb dX12_owed_86 rfl ?_
          refine lv_iload_n hx hb dX12_owed_87 rfl (lv_at hl 3 rfl) ?_
          refine xq_aload_n hx hb dX12_owed_88 rfl (lv_at hl 0 rfl) ?_
          refine jt_q (.ref z_3.toNat) (rv_ref (h_6).1) ?_
          have h_45 : (-2147483648) ≤ v z_3 1 ∧ v z_3 1 ≤ 2147483647 := xf_11_1 hI h_6
          refine gx_RX12_170 (y := v z_3 1) hx hb hj hown hK hP h_6 (((fr_use h_6 f_43 rfl)).trans (((fr_use h_6 f_37 rfl)).trans (((fr_use h_6 f_30 rfl)).trans (fr_use h_6 f_23 rfl)))) dX12_owed_89 ?_
          refine jcg_i (va_runV (As := [.int (iI 4), .int (iI p2), .int (iI (v z_3 1))]) (rest := []) ⟨hx, hb, hml, hown, hts⟩ (sX8_valueOf l dC dI _ L cid K N tW sK sV v_42 (v p0 3) 4 p2 (v z_3 1) I_44 h_18 (by omega) (by omega) (by omega)) (cwV 3 hts (jgoodV m_1088 m_956 m_957 m_928 m_958) rfl rfl rfl (by decide +kernel) ⟨(Nat.le_of_ble_eq_true rfl), (Nat.le_of_ble_eq_true rfl)⟩) ⟨xP_blind, xrecv hK hP h_18 rfl rfl, fun U hU hW => ⟨rfl, xP_of hU hW hP hK hD hX hS (fun _ h => h) hA⟩⟩ rfl rfl hl.1 rfl (lv_room (Nat.le_of_ble_eq_true rfl)) dX12_owed_92 ⟨(Nat.le_of_ble_eq_true rfl), (Nat.le_of_ble_eq_true rfl)⟩) hD hS hA (fun r_46 v_50 H locs w_47 hP hK hD hS => ?_)
          obtain ⟨z_48, rfl, I_52, f_51, h_49⟩ := w_47
          have hP : va_P (dC, dI) vwCl (xG L cid K N v_50) H := hP
          have hD : va_D A (xG L cid K N v_50) := hD
          refine lv_istore (i := 4) (lv' := [(4, .int (iI z_48)), (3, rv z_3), (0, .ref p0.toNat), (1, .int (iI p1)), (2, .int (iI p2))]) hx hb dX12_owed_95 hl (by decide) (by simp [rv_cat]) (fun ls hl => ?_)
          refine lv_iconst (v := iI 0) hx hb dX12_owed_97 rfl ?_
          refine lv_aload_n hx hb dX12_owed_98 rfl (lv_at hl 2 rfl) ?_
          have h_53 : ok L K (v p0 16) 41 := xf_12_16 hI q0
          have h_54 : N (v p0 16) = 10 := xn_41 hI h_53
          refine gx_RX12_73 (y := v p0 16) hx hb hj hown hK hP q0 ((xf_12_16 I_52 q0).1) (((fr_use q0 f_51 rfl)).trans (((fr_use q0 f_43 rfl)).trans (((fr_use q0 f_37 rfl)).trans (((fr_use q0 f_30 rfl)).trans (fr_use q0 f_23 rfl))))) dX12_owed_99 ?_
          refine lv_iload_n hx hb dX12_owed_102 rfl (lv_at hl 3 rfl) ?_
          have h_55 : (-2147483648) ≤ v (v p0 16) p1 ∧ v (v p0 16) p1 ≤ 2147483647 := xe_41 hI h_53 (by omega)
          refine ax_41 (y := v (v p0 16) p1) hx hb hK hP h_53 (by omega) (by omega) (by omega) (((fr_use h_53 f_51 rfl)).trans (((fr_use h_53 f_43 rfl)).trans (((fr_use h_53 f_37 rfl)).trans (((fr_use h_53 f_30 rfl)).trans (fr_use h_53 f_23 rfl))))) dX12_owed_103 ?_
          refine lv_iload hx hb dX12_owed_104 (lv_at hl 0 rfl) ?_
          refine va_mmin hx hb (by rw [hml]; exact hl.1.symm) hown (hj _ m_897) (hj _ m_765) (hj _ m_762) (hj _ m_766) (Nat.le_of_ble_eq_true rfl) (Nat.le_of_ble_eq_true rfl) (Nat.le_of_ble_eq_true rfl) (Nat.le_of_ble_eq_true rfl) dX12_owed_106 ?_
          refine xm_min (by omega) (by omega) (fun z_56 h_57 => ?_)
          refine va_mmax hx hb (by rw [hml]; exact hl.1.symm) hown (hj _ m_1182) (hj _ m_761) (hj _ m_762) (hj _ m_763) (Nat.le_of_ble_eq_true rfl) (Nat.le_of_ble_eq_true rfl) (Nat.le_of_ble_eq_true rfl) (Nat.le_of_ble_eq_true rfl) dX12_owed_109 ?_
          refine xm_max (by omega) (by omega) (fun z_58 h_59 => ?_)
          rw [← hQ]
          exact W.iret (v := iI z_58) hx hb hr (fun t ht hW => ⟨⟨iI z_58, v_50, rfl, ⟨z_58, rfl, I_52, (fr_tr f_51 rfl (fr_tr f_43 rfl (fr_tr f_37 rfl (fr_tr f_30 rfl (fr_tr f_23 rfl fr_rf))))), by omega⟩, by rw [ht]; exact hP, va_K.moved hW.alike hK, hD⟩, hS.F ht⟩) hS.2.2 dX12_owed_112
        · refine lv_iconst (v := iI (-1)) hx hb dX12_owed_38 rfl ?_
          rw [← hQ]
          exact W.iret (v := iI (-1)) hx hb hr (fun t ht hW => ⟨⟨iI (-1), v, rfl, ⟨(-1), rfl, hI, fr_rf, by omega⟩, by rw [ht]; exact hP, va_K.moved hW.alike hK, hD⟩, hS.F ht⟩) hS.2.2 dX12_owed_39
set_option maxHeartbeats 2000000 in
set_option maxRecDepth 100000 in
theorem sX12_lengthWithin (l : Launch) (dC : Nat → ClassId) (dI : Nat → Nat → Nat) (sz : Nat) (p0 : Int) (p1 : Int) (q1 : rg p1) : Met l yX12_lengthWithin (jk yX12_lengthWithin cX12_lengthWithin 2 (some .int)) ({ frames := 1, cells := 0, slots := 0, locals := 40 }) (va_Pc [.ref p0.toNat, .int (iI p1)] (fun U => U.heap.size = sz)) (va_Qi (fun (r : Int32) (_ : Unit) => ∃ z : Int, r = iI z ∧ (rg z)) (fun _ _ => True) (va_A [] sz)) 0 0 (va_A [] sz) := by
  refine Met.ofW (cc := cX12_lengthWithin) (maxL := 2) (ret := (some .int)) (by decide) rfl ?_
  intro p e s m args below meth c s₁ B hml hv
  obtain ⟨rfl, hsz⟩ := hv
  have hx := B.exec
  have hb := B.bytes
  have hr := B.returns
  have hts := atoms_spec (ws := (jk yX12_lengthWithin cX12_lengthWithin 2 (some .int))) B.pre
  have hj : ∀ w ∈ jw, w.before ([.ref p0.toNat, .int (iI p1)] : List Value).toArray s = true := fun w h => hts w (jm h)
  have hown : s.vm.findClass RX12 = some m.cls := findClass_of_methodNamed B.named
  subst hsz
  have hP : va_P (dC, dI) vwCl [] s.heap := fun k q h => by simp at h
  generalize hAe : (va_A [] s.heap.size) = A
  have hA : ∀ q : Nat, s.heap.size ≤ q → A q := fun q h => by rw [← hAe]; exact Or.inr h
  have hS : va_S A s.heap s.heap [] := va_S.rf
  have hl := lv_entry ([.ref p0.toNat, .int (iI p1)]) (n := 2) (Nat.le_of_ble_eq_true rfl)
  rw [lg_entry_eq]
  generalize (lg_sl ([.ref p0.toNat, .int (iI p1)]) ++ List.replicate (2 - (lg_sl ([.ref p0.toNat, .int (iI p1)])).length) Slot.unset).toArray = ls at hl ⊢
  have hl : lv_has ls 2 [(0, .ref p0.toNat), (1, .int (iI p1))] := hl
  generalize hQ : MQ below (va_Qi (fun (r : Int32) (_ : Unit) => ∃ z : Int, r = iI z ∧ (rg z)) (fun _ _ => True) A) ([.ref p0.toNat, .int (iI p1)] : List Value).toArray s 0 0 A = Q
  suffices ST : ∀ (H : Heap) (locs : List Loc), va_P (dC, dI) vwCl [] H → va_S A s.heap H locs → W p l e ({ frames := 1, cells := 0, slots := 0, locals := 40 }) s m ([.ref p0.toNat, .int (iI p1)] : List Value).toArray below meth c H locs 0 0 Q (F0 m 0 ls []) from ST _ _ hP hS
  clear hP hS
  intro H locs hP hS
  refine lv_iconst (v := iI 1) hx hb dX12_lengthWithin_0 rfl ?_
  refine lv_sipush (v := iI 400) hx hb dX12_lengthWithin_1 rfl ?_
  refine lv_iload_n hx hb dX12_lengthWithin_4 rfl (lv_at hl 1 rfl) ?_
  refine va_mmin hx hb (by rw [hml]; exact hl.1.symm) hown (hj _ m_897) (hj _ m_765) (hj _ m_762) (hj _ m_766) (Nat.le_of_ble_eq_true rfl) (Nat.le_of_ble_eq_true rfl) (Nat.le_of_ble_eq_true rfl) (Nat.le_of_ble_eq_true rfl) dX12_lengthWithin_5 ?_
  refine xm_min (by omega) (by omega) (fun z_1 h_2 => ?_)
  refine va_mmax hx hb (by rw [hml]; exact hl.1.symm) hown (hj _ m_1182) (hj _ m_761) (hj _ m_762) (hj _ m_763) (Nat.le_of_ble_eq_true rfl) (Nat.le_of_ble_eq_true rfl) (Nat.le_of_ble_eq_true rfl) (Nat.le_of_ble_eq_true rfl) dX12_lengthWithin_8 ?_
  refine xm_max (by omega) (by omega) (fun z_3 h_4 => ?_)
  rw [← hQ]
  exact W.iret (v := iI z_3) hx hb hr (fun t ht hW => ⟨⟨iI z_3, (), rfl, ⟨z_3, rfl, by omega⟩, trivial⟩, hS.F ht⟩) hS.2.2 dX12_lengthWithin_11
set_option maxHeartbeats 2000000 in
set_option maxRecDepth 100000 in
theorem sX12_addToFitting (l : Launch) (dC : Nat → ClassId) (dI : Nat → Nat → Nat) (sz : Nat) (L : List Nat) (cid : Nat → ClassId) (K : Int → Nat) (N : Int → Int) (tW : Nat) (sK sV : Nat → Nat) (v : Int → Int → Int) (p0 : Int) (p1 : Int) (hI : xI L K N v) (q0 : ok L K p0 12) (q1 : ok L K p1 0) : Met l yX12_addToFitting (jk yX12_addToFitting cX12_addToFitting 4 none) ({ frames := 5, cells := 0, slots := 0, locals := 139 }) (va_Pc [.ref p0.toNat, .ref p1.toNat] (xP (dC, dI) (xG L cid K N v) (xT cid) tW sK sV sz)) (va_Qv (fun (u : (Int → Int → Int)) => (xI L K N u) ∧ (fr K [(3, 5), (3, 6), (33, (-1)), (34, (-1)), (52, (-1))] u v)) (fun u t => va_P (dC, dI) vwCl (xG L cid K N u) t.heap ∧ va_K (dC, dI) vwCl (xT cid) t ∧ va_D (va_A (xG L cid K N v) sz) (xG L cid K N u)) (va_A (xG L cid K N v) sz)) 0 0 (va_A (xG L cid K N v) sz) := by
  refine Met.ofW (cc := cX12_addToFitting) (maxL := 4) (ret := none) (by decide) rfl ?_
  intro p e s m args below meth c s₁ B hml hv
  obtain ⟨rfl, ⟨hsz, hP, hK, hD0⟩, hX⟩ := hv
  have hx := B.exec
  have hb := B.bytes
  have hr := B.returns
  have hts := atoms_spec (ws := (jk yX12_addToFitting cX12_addToFitting 4 none)) B.pre
  have hj : ∀ w ∈ jw, w.before ([.ref p0.toNat, .ref p1.toNat] : List Value).toArray s = true := fun w h => hts w (jm h)
  have hown : s.vm.findClass RX12 = some m.cls := findClass_of_methodNamed B.named
  subst hsz
  have hD := hD0.self (sz := s.heap.size)
  generalize hAe : (va_A (xG L cid K N v) s.heap.size) = A at hD hX ⊢
  have hA : ∀ q : Nat, s.heap.size ≤ q → A q := fun q h => by rw [← hAe]; exact Or.inr h
  have hS : va_S A s.heap s.heap [] := va_S.rf
  have hXa := hX
  have hP : va_P (dC, dI) vwCl (xG L cid K N v) s.heap := hP
  have hl := lv_entry ([.ref p0.toNat, .ref p1.toNat]) (n := 4) (Nat.le_of_ble_eq_true rfl)
  rw [lg_entry_eq]
  generalize (lg_sl ([.ref p0.toNat, .ref p1.toNat]) ++ List.replicate (4 - (lg_sl ([.ref p0.toNat, .ref p1.toNat])).length) Slot.unset).toArray = ls at hl ⊢
  have hl : lv_has ls 4 [(0, .ref p0.toNat), (1, .ref p1.toNat)] := hl
  generalize hQ : MQ below (va_Qv (fun (u : (Int → Int → Int)) => (xI L K N u) ∧ (fr K [(3, 5), (3, 6), (33, (-1)), (34, (-1)), (52, (-1))] u v)) (fun u t => va_P (dC, dI) vwCl (xG L cid K N u) t.heap ∧ va_K (dC, dI) vwCl (xT cid) t ∧ va_D A (xG L cid K N u)) A) ([.ref p0.toNat, .ref p1.toNat] : List Value).toArray s 0 0 A = Q
  suffices ST : ∀ (H : Heap) (locs : List Loc), va_P (dC, dI) vwCl (xG L cid K N v) H → va_S A s.heap H locs → W p l e ({ frames := 5, cells := 0, slots := 0, locals := 139 }) s m ([.ref p0.toNat, .ref p1.toNat] : List Value).toArray below meth c H locs 0 0 Q (F0 m 0 ls []) from ST _ _ hP hS
  clear hP hS
  intro H locs hP hS
  refine lv_aload_n hx hb dX12_addToFitting_0 rfl (lv_at hl 1 rfl) ?_
  have h_1 : (-2147483648) ≤ v p1 1 ∧ v p1 1 ≤ 2147483647 := xf_0_1 hI q1
  refine gx_RX12_240 (y := v p1 1) hx hb hj hown hK hP q1 rfl dX12_addToFitting_1 ?_
  refine xr_if_eq (tgt := 25) hx hb dX12_addToFitting_4 (by decide) (by omega) (fun h_2 => ?_) (fun h_2 => ?_)
  · refine lv_aload_n hx hb dX12_addToFitting_25 rfl (lv_at hl 0 rfl) ?_
    refine lv_aload_n hx hb dX12_addToFitting_26 rfl (lv_at hl 0 rfl) ?_
    refine lv_iconst (v := iI 5) hx hb dX12_addToFitting_27 rfl ?_
    refine lv_aload_n hx hb dX12_addToFitting_28 rfl (lv_at hl 1 rfl) ?_
    have h_3 : (-2147483648) ≤ v p1 7 ∧ v p1 7 ≤ 2147483647 := xf_0_7 hI q1
    refine gx_RX12_177 (y := v p1 7) hx hb hj hown hK hP q1 rfl dX12_addToFitting_29 ?_
    refine xr_add hx hb dX12_addToFitting_32 ?_
    refine xr_kept (fun z_4 h_5 h_6 => ?_)
    refine lv_aload_n hx hb dX12_addToFitting_33 rfl (lv_at hl 1 rfl) ?_
    refine lv_aload_n hx hb dX12_addToFitting_34 rfl (lv_at hl 1 rfl) ?_
    have h_7 : (-2147483648) ≤ v p1 14 ∧ v p1 14 ≤ 2147483647 := xf_0_14 hI q1
    refine gx_RX12_313 (y := v p1 14) hx hb hj hown hK hP q1 rfl dX12_addToFitting_35 ?_
    refine jcg_i (va_runV (As := [.int (iI z_4), .ref p1.toNat, .int (iI (v p1 14))]) (rest := [.ref p0.toNat]) ⟨hx, hb, hml, hown, hts⟩ (sX12_valueFor l dC dI _ L cid K N tW sK sV v p0 z_4 p1 (v p1 14) hI q0 (by omega) q1 (by omega)) (cwV 3 hts (jgoodV m_1093 m_1094 m_1095 m_873 m_1096) rfl rfl rfl (by decide +kernel) ⟨(Nat.le_of_ble_eq_true rfl), (Nat.le_of_ble_eq_true rfl)⟩) ⟨xP_blind, xrecv hK hP q0 rfl rfl, fun U hU hW => ⟨rfl, xP_of hU hW hP hK hD hX hS (fun _ h => h) hA⟩⟩ rfl rfl hl.1 rfl (lv_room (Nat.le_of_ble_eq_true rfl)) dX12_addToFitting_38 ⟨(Nat.le_of_ble_eq_true rfl), (Nat.le_of_ble_eq_true rfl)⟩) hD hS hA (fun r_8 v_12 H locs w_9 hP hK hD hS => ?_)
    obtain ⟨z_10, rfl, I_14, f_13, h_11⟩ := w_9
    have hP : va_P (dC, dI) vwCl (xG L cid K N v_12) H := hP
    have hD : va_D A (xG L cid K N v_12) := hD
    refine jc_i (va_runV (As := [.int (iI z_10)]) (rest := []) ⟨hx, hb, hml, hown, hts⟩ (sX12_lengthWithin l dC dI _ p0 z_10 (by omega)) (cwV 1 hts (jgoodV m_1183 m_1184 m_1185 m_873 m_1186) rfl rfl rfl (by decide +kernel) ⟨(Nat.le_of_ble_eq_true rfl), (Nat.le_of_ble_eq_true rfl)⟩) ⟨jw_blind0, xrecv hK hP q0 rfl rfl, fun U hU hW => ⟨rfl, congrArg Array.size hU⟩⟩ rfl rfl hl.1 rfl (lv_room (Nat.le_of_ble_eq_true rfl)) dX12_addToFitting_41 ⟨(Nat.le_of_ble_eq_true rfl), (Nat.le_of_ble_eq_true rfl)⟩) hP hS hA (fun r_15 H locs w_16 hP hS => ?_)
    obtain ⟨z_17, rfl, h_18⟩ := w_16
    refine lv_istore_n (i := 2) (lv' := [(2, .int (iI z_17)), (0, .ref p0.toNat), (1, .ref p1.toNat)]) hx hb dX12_addToFitting_44 rfl hl (by decide) rfl (fun ls hl => ?_)
    refine lv_aload_n hx hb dX12_addToFitting_45 rfl (lv_at hl 1 rfl) ?_
    refine lv_aload_n hx hb dX12_addToFitting_46 rfl (lv_at hl 1 rfl) ?_
    refine lv_bipush (v := iI 8) hx hb dX12_addToFitting_47 rfl ?_
    refine lv_aload_n hx hb dX12_addToFitting_49 rfl (lv_at hl 2 rfl) ?_
    refine gx_RX12_177 (y := v p1 7) hx hb hj hown hK hP q1 (fr_use q1 f_13 rfl) dX12_addToFitting_50 ?_
    refine xr_add hx hb dX12_addToFitting_53 ?_
    refine xr_kept (fun z_19 h_20 h_21 => ?_)
    refine lv_aload_n hx hb dX12_addToFitting_54 rfl (lv_at hl 2 rfl) ?_
    refine lv_aload_n hx hb dX12_addToFitting_55 rfl (lv_at hl 2 rfl) ?_
    refine gx_RX12_313 (y := v p1 14) hx hb hj hown hK hP q1 (fr_use q1 f_13 rfl) dX12_addToFitting_56 ?_
    refine jcg_i (va_runV (As := [.int (iI z_19), .ref p1.toNat, .int (iI (v p1 14))]) (rest := [.ref p0.toNat]) ⟨hx, hb, hml, hown, hts⟩ (sX12_valueFor l dC dI _ L cid K N tW sK sV v_12 p0 z_19 p1 (v p1 14) I_14 q0 (by omega) q1 (by omega)) (cwV 3 hts (jgoodV m_1093 m_1094 m_1095 m_873 m_1096) rfl rfl rfl (by decide +kernel) ⟨(Nat.le_of_ble_eq_true rfl), (Nat.le_of_ble_eq_true rfl)⟩) ⟨xP_blind, xrecv hK hP q0 rfl rfl, fun U hU hW => ⟨rfl, xP_of hU hW hP hK hD hX hS (fun _ h => h) hA⟩⟩ rfl rfl hl.1 rfl (lv_room (Nat.le_of_ble_eq_true rfl)) dX12_addToFitting_59 ⟨(Nat.le_of_ble_eq_true rfl), (Nat.le_of_ble_eq_true rfl)⟩) hD hS hA (fun r_22 v_26 H locs w_23 hP hK hD hS => ?_)
    obtain ⟨z_24, rfl, I_28, f_27, h_25⟩ := w_23
    have hP : va_P (dC, dI) vwCl (xG L cid K N v_26) H := hP
    have hD : va_D A (xG L cid K N v_26) := hD
    refine jc_i (va_runV (As := [.int (iI z_24)]) (rest := []) ⟨hx, hb, hml, hown, hts⟩ (sX12_lengthWithin l dC dI _ p0 z_24 (by omega)) (cwV 1 hts (jgoodV m_1183 m_1184 m_1185 m_873 m_1186) rfl rfl rfl (by decide +kernel) ⟨(Nat.le_of_ble_eq_true rfl), (Nat.le_of_ble_eq_true rfl)⟩) ⟨jw_blind0, xrecv hK hP q0 rfl rfl, fun U hU hW => ⟨rfl, congrArg Array.size hU⟩⟩ rfl rfl hl.1 rfl (lv_room (Nat.le_of_ble_eq_true rfl)) dX12_addToFitting_62 ⟨(Nat.le_of_ble_eq_true rfl), (Nat.le_of_ble_eq_true rfl)⟩) hP hS hA (fun r_29 H locs w_30 hP hS => ?_)
    obtain ⟨z_31, rfl, h_32⟩ := w_30
    refine lv_istore_n (i := 3) (lv' := [(3, .int (iI z_31)), (2, .int (iI z_17)), (0, .ref p0.toNat), (1, .ref p1.toNat)]) hx hb dX12_addToFitting_65 rfl hl (by decide) rfl (fun ls hl => ?_)
    refine lv_aload_n hx hb dX12_addToFitting_66 rfl (lv_at hl 2 rfl) ?_
    have h_33 : ok L K (v p0 17) 3 := xf_12_17 hI q0
    refine gx_RX12_85 (y := v p0 17) hx hb hj hown hK hP q0 ((xf_12_17 I_28 q0).1) (((fr_use q0 f_27 rfl)).trans (fr_use q0 f_13 rfl)) dX12_addToFitting_67 ?_
    refine lv_aload_n hx hb dX12_addToFitting_70 rfl (lv_at hl 3 rfl) ?_
    have h_34 : (-2147483648) ≤ v p1 0 ∧ v p1 0 ≤ 2147483647 := xf_0_0 hI q1
    refine gx_RX12_186 (y := v p1 0) hx hb hj hown hK hP q1 (((fr_use q1 f_27 rfl)).trans (fr_use q1 f_13 rfl)) dX12_addToFitting_71 ?_
    refine lv_aload_n hx hb dX12_addToFitting_74 rfl (lv_at hl 3 rfl) ?_
    have h_35 : 0 ≤ v p1 9 ∧ v p1 9 ≤ 200 := xf_0_9 hI q1
    refine gx_RX12_183 (y := v p1 9) hx hb hj hown hK hP q1 (((fr_use q1 f_27 rfl)).trans (fr_use q1 f_13 rfl)) dX12_addToFitting_75 ?_
    refine lv_iload_n hx hb dX12_addToFitting_78 rfl (lv_at hl 1 rfl) ?_
    refine lv_iload_n hx hb dX12_addToFitting_79 rfl (lv_at hl 0 rfl) ?_
    refine va_mmin hx hb (by rw [hml]; exact hl.1.symm) hown (hj _ m_897) (hj _ m_765) (hj _ m_762) (hj _ m_766) (Nat.le_of_ble_eq_true rfl) (Nat.le_of_ble_eq_true rfl) (Nat.le_of_ble_eq_true rfl) (Nat.le_of_ble_eq_true rfl) dX12_addToFitting_80 ?_
    refine xm_min (by omega) (by omega) (fun z_36 h_37 => ?_)
    refine lv_iload_n hx hb dX12_addToFitting_83 rfl (lv_at hl 0 rfl) ?_
    refine jcg_v (va_runV (As := [.int (iI (v p1 0)), .int (iI (v p1 9)), .int (iI z_36), .int (iI z_31)]) (rest := []) ⟨hx, hb, hml, hown, hts⟩ (sX3_add l dC dI _ L cid K N tW sK sV v_26 (v p0 17) (v p1 0) (v p1 9) z_36 z_31 I_28 h_33 (by omega) (by omega) (by omega) (by omega)) (cwV 4 hts (jgoodV m_1187 m_1188 m_1189 m_914 m_1190) rfl rfl rfl (by decide +kernel) ⟨(Nat.le_of_ble_eq_true rfl), (Nat.le_of_ble_eq_true rfl)⟩) ⟨xP_blind, xrecv hK hP h_33 rfl rfl, fun U hU hW => ⟨rfl, xP_of hU hW hP hK hD hX hS (fun _ h => h) hA⟩⟩ rfl rfl hl.1 rfl (lv_room (Nat.le_of_ble_eq_true rfl)) dX12_addToFitting_84 ⟨(Nat.le_of_ble_eq_true rfl), (Nat.le_of_ble_eq_true rfl)⟩) hD hS hA (fun v_41 H locs w_39 hP hK hD hS => ?_)
    obtain ⟨I_43, f_42⟩ := w_39
    have hP : va_P (dC, dI) vwCl (xG L cid K N v_41) H := hP
    have hD : va_D A (xG L cid K N v_41) := hD
    rw [← hQ]
    exact W.vret hx hb hr (fun t ht hW => ⟨⟨v_41, rfl, ⟨I_43, (fr_tr f_42 rfl (fr_tr f_27 rfl (fr_tr f_13 rfl fr_rf)))⟩, by rw [ht]; exact hP, va_K.moved hW.alike hK, hD⟩, hS.F ht⟩) hS.2.2 dX12_addToFitting_87
  · refine lv_aload_n hx hb dX12_addToFitting_7 rfl (lv_at hl 0 rfl) ?_
    have h_44 : ok L K (v p0 17) 3 := xf_12_17 hI q0
    refine gx_RX12_85 (y := v p0 17) hx hb hj hown hK hP q0 ((xf_12_17 hI q0).1) rfl dX12_addToFitting_8 ?_
    refine lv_dup hx hb dX12_addToFitting_11 rfl ?_
    have h_45 : (-2147483648) ≤ v (v p0 17) 6 ∧ v (v p0 17) 6 ≤ 2147483647 := xf_3_6 hI h_44
    refine gx_RX12_518 (y := v (v p0 17) 6) hx hb hj hown hK hP h_44 rfl dX12_addToFitting_12 ?_
    refine lv_aload_n hx hb dX12_addToFitting_15 rfl (lv_at hl 0 rfl) ?_
    refine lv_aload_n hx hb dX12_addToFitting_16 rfl (lv_at hl 1 rfl) ?_
    refine jc_i (va_runV (As := [.ref p1.toNat]) (rest := [.int (iI (v (v p0 17) 6)), .ref (v p0 17).toNat]) ⟨hx, hb, hml, hown, hts⟩ (sX12_takenLines l dC dI _ L cid K N tW sK sV v p0 p1 hI q0 q1) (cwV 1 hts (jgoodV m_1191 m_1192 m_1193 m_873 m_1194) rfl rfl rfl (by decide +kernel) ⟨(Nat.le_of_ble_eq_true rfl), (Nat.le_of_ble_eq_true rfl)⟩) ⟨xP_blind, xrecv hK hP q0 rfl rfl, fun U hU hW => ⟨rfl, xP_of hU hW hP hK hD hX hS (fun _ h => h) hA⟩⟩ rfl rfl hl.1 rfl (lv_room (Nat.le_of_ble_eq_true rfl)) dX12_addToFitting_17 ⟨(Nat.le_of_ble_eq_true rfl), (Nat.le_of_ble_eq_true rfl)⟩) hP hS hA (fun r_46 H locs w_47 hP hS => ?_)
    obtain ⟨z_48, rfl, h_49⟩ := w_47
    refine xr_add hx hb dX12_addToFitting_20 ?_
    refine xr_kept (fun z_50 h_51 h_52 => ?_)
    refine px_RX12_518 (y := z_50) hx hb hj hown hK hP hD hS hI h_44 ⟨by omega, by omega⟩ dX12_addToFitting_21 (fun v_53 H locs f_54 e_55 o_56 I_57 hP hD hS => ?_)
    rw [← hQ]
    exact W.vret hx hb hr (fun t ht hW => ⟨⟨v_53, rfl, ⟨I_57, (fr_tr f_54 rfl fr_rf)⟩, by rw [ht]; exact hP, va_K.moved hW.alike hK, hD⟩, hS.F ht⟩) hS.2.2 dX12_addToFitting_24
set_option maxHeartbeats 2000000 in
set_option maxRecDepth 100000 in
theorem sX12_fit (l : Launch) (dC : Nat → ClassId) (dI : Nat → Nat → Nat) (sz : Nat) (L : List Nat) (cid : Nat → ClassId) (K : Int → Nat) (N : Int → Int) (tW : Nat) (sK sV : Nat → Nat) (v : Int → Int → Int) (p0 : Int) (p1 : Int) (p2 : Int) (hI : xI L K N v) (q0 : ok L K p0 12) (q1 : rg p1) (q2 : rg p2) : Met l yX12_fit (jk yX12_fit cX12_fit 5 (some .boolean)) ({ frames := 6, cells := 0, slots := 0, locals := 162 }) (va_Pc [.ref p0.toNat, .int (iI p1), .int (iI p2)] (xP (dC, dI) (xG L cid K N v) (xT cid) tW sK sV sz)) (va_Qi (fun (r : Int32) (u : (Int → Int → Int)) => ∃ z : Int, r = iI z ∧ (xI L K N u) ∧ (fr K [(0, 5), (3, 5), (3, 6), (6, 1), (6, 2), (6, 3), (6, 4), (6, 5), (12, 9), (33, (-1)), (34, (-1)), (37, (-1)), (52, (-1))] u v) ∧ (0 ≤ z ∧ z ≤ 1)) (fun u t => va_P (dC, dI) vwCl (xG L cid K N u) t.heap ∧ va_K (dC, dI) vwCl (xT cid) t ∧ va_D (va_A (xG L cid K N v) sz) (xG L cid K N u)) (va_A (xG L cid K N v) sz)) 0 0 (va_A (xG L cid K N v) sz) := by
  refine Met.ofW (cc := cX12_fit) (maxL := 5) (ret := (some .boolean)) (by decide) rfl ?_
  intro p e s m args below meth c s₁ B hml hv
  obtain ⟨rfl, ⟨hsz, hP, hK, hD0⟩, hX⟩ := hv
  have hx := B.exec
  have hb := B.bytes
  have hr := B.returns
  have hts := atoms_spec (ws := (jk yX12_fit cX12_fit 5 (some .boolean))) B.pre
  have hj : ∀ w ∈ jw, w.before ([.ref p0.toNat, .int (iI p1), .int (iI p2)] : List Value).toArray s = true := fun w h => hts w (jm h)
  have hown : s.vm.findClass RX12 = some m.cls := findClass_of_methodNamed B.named
  subst hsz
  have hD := hD0.self (sz := s.heap.size)
  generalize hAe : (va_A (xG L cid K N v) s.heap.size) = A at hD hX ⊢
  have hA : ∀ q : Nat, s.heap.size ≤ q → A q := fun q h => by rw [← hAe]; exact Or.inr h
  have hS : va_S A s.heap s.heap [] := va_S.rf
  have hXa := hX
  have hP : va_P (dC, dI) vwCl (xG L cid K N v) s.heap := hP
  have hl := lv_entry ([.ref p0.toNat, .int (iI p1), .int (iI p2)]) (n := 5) (Nat.le_of_ble_eq_true rfl)
  rw [lg_entry_eq]
  generalize (lg_sl ([.ref p0.toNat, .int (iI p1), .int (iI p2)]) ++ List.replicate (5 - (lg_sl ([.ref p0.toNat, .int (iI p1), .int (iI p2)])).length) Slot.unset).toArray = ls at hl ⊢
  have hl : lv_has ls 5 [(0, .ref p0.toNat), (1, .int (iI p1)), (2, .int (iI p2))] := hl
  generalize hQ : MQ below (va_Qi (fun (r : Int32) (u : (Int → Int → Int)) => ∃ z : Int, r = iI z ∧ (xI L K N u) ∧ (fr K [(0, 5), (3, 5), (3, 6), (6, 1), (6, 2), (6, 3), (6, 4), (6, 5), (12, 9), (33, (-1)), (34, (-1)), (37, (-1)), (52, (-1))] u v) ∧ (0 ≤ z ∧ z ≤ 1)) (fun u t => va_P (dC, dI) vwCl (xG L cid K N u) t.heap ∧ va_K (dC, dI) vwCl (xT cid) t ∧ va_D A (xG L cid K N u)) A) ([.ref p0.toNat, .int (iI p1), .int (iI p2)] : List Value).toArray s 0 0 A = Q
  suffices ST : ∀ (H : Heap) (locs : List Loc), va_P (dC, dI) vwCl (xG L cid K N v) H → va_S A s.heap H locs → W p l e ({ frames := 6, cells := 0, slots := 0, locals := 162 }) s m ([.ref p0.toNat, .int (iI p1), .int (iI p2)] : List Value).toArray below meth c H locs 0 0 Q (F0 m 0 ls []) from ST _ _ hP hS
  clear hP hS
  intro H locs hP hS
  refine lv_aload_n hx hb dX12_fit_0 rfl (lv_at hl 0 rfl) ?_
  refine lv_iload_n hx hb dX12_fit_1 rfl (lv_at hl 1 rfl) ?_
  refine jc_i (va_runV (As := [.int (iI p1)]) (rest := []) ⟨hx, hb, hml, hown, hts⟩ (sX12_isVolume l dC dI _ p0 p1 (by omega)) (cwV 1 hts (jgoodV m_985 m_986 m_987 m_873 m_988) rfl rfl rfl (by decide +kernel) ⟨(Nat.le_of_ble_eq_true rfl), (Nat.le_of_ble_eq_true rfl)⟩) ⟨jw_blind0, xrecv hK hP q0 rfl rfl, fun U hU hW => ⟨rfl, congrArg Array.size hU⟩⟩ rfl rfl hl.1 rfl (lv_room (Nat.le_of_ble_eq_true rfl)) dX12_fit_2 ⟨(Nat.le_of_ble_eq_true rfl), (Nat.le_of_ble_eq_true rfl)⟩) hP hS hA (fun r_1 H locs w_2 hP hS => ?_)
  obtain ⟨z_3, rfl, h_4, h_5⟩ := w_2
  refine xr_if_eq (tgt := 28) hx hb dX12_fit_5 (by decide) (by omega) (fun h_6 => ?_) (fun h_6 => ?_)
  · refine lv_iconst (v := iI 0) hx hb dX12_fit_28 rfl ?_
    rw [← hQ]
    exact W.zret (v := iI 0) (ty := .boolean) hx hb hr (nb_bool (by omega) (by omega)) (fun t ht hW => ⟨⟨iI 0, v, rfl, ⟨0, rfl, hI, fr_rf, by omega⟩, by rw [ht]; exact hP, va_K.moved hW.alike hK, hD⟩, hS.F ht⟩) hS.2.2 dX12_fit_29
  · refine lv_aload_n hx hb dX12_fit_8 rfl (lv_at hl 0 rfl) ?_
    refine lv_iload_n hx hb dX12_fit_9 rfl (lv_at hl 1 rfl) ?_
    refine jc_i (va_runV (As := [.int (iI p1)]) (rest := []) ⟨hx, hb, hml, hown, hts⟩ (sX12_isSet l dC dI _ L cid K N tW sK sV v p0 p1 hI q0 (by omega)) (cwV 1 hts (jgoodV m_1019 m_1020 m_1021 m_873 m_1022) rfl rfl rfl (by decide +kernel) ⟨(Nat.le_of_ble_eq_true rfl), (Nat.le_of_ble_eq_true rfl)⟩) ⟨xP_blind, xrecv hK hP q0 rfl rfl, fun U hU hW => ⟨rfl, xP_of hU hW hP hK hD hX hS (fun _ h => h) hA⟩⟩ rfl rfl hl.1 rfl (lv_room (Nat.le_of_ble_eq_true rfl)) dX12_fit_10 ⟨(Nat.le_of_ble_eq_true rfl), (Nat.le_of_ble_eq_true rfl)⟩) hP hS hA (fun r_7 H locs w_8 hP hS => ?_)
    obtain ⟨z_9, rfl, h_10⟩ := w_8
    refine xr_if_ne (tgt := 28) hx hb dX12_fit_13 (by decide) (by omega) (fun h_11 => ?_) (fun h_11 => ?_)
    · refine lv_iconst (v := iI 0) hx hb dX12_fit_28 rfl ?_
      rw [← hQ]
      exact W.zret (v := iI 0) (ty := .boolean) hx hb hr (nb_bool (by omega) (by omega)) (fun t ht hW => ⟨⟨iI 0, v, rfl, ⟨0, rfl, hI, fr_rf, by omega⟩, by rw [ht]; exact hP, va_K.moved hW.alike hK, hD⟩, hS.F ht⟩) hS.2.2 dX12_fit_29
    · refine lv_iload_n hx hb dX12_fit_16 rfl (lv_at hl 2 rfl) ?_
      refine lv_iconst (v := iI 1) hx hb dX12_fit_17 rfl ?_
      refine xr_icmp_lt (tgt := 28) hx hb dX12_fit_18 (by decide) (by omega) (by omega) (fun h_12 => ?_) (fun h_12 => ?_)
      · refine lv_iconst (v := iI 0) hx hb dX12_fit_28 rfl ?_
        rw [← hQ]
        exact W.zret (v := iI 0) (ty := .boolean) hx hb hr (nb_bool (by omega) (by omega)) (fun t ht hW => ⟨⟨iI 0, v, rfl, ⟨0, rfl, hI, fr_rf, by omega⟩, by rw [ht]; exact hP, va_K.moved hW.alike hK, hD⟩, hS.F ht⟩) hS.2.2 dX12_fit_29
      · refine lv_iload_n hx hb dX12_fit_21 rfl (lv_at hl 2 rfl) ?_
        refine lv_sipush (v := iI 400) hx hb dX12_fit_22 rfl ?_
        refine xr_icmp_le (tgt := 30) hx hb dX12_fit_25 (by decide) (by omega) (by omega) (fun h_13 => ?_) (fun h_13 => ?_)
        · refine lv_aload_n hx hb dX12_fit_30 rfl (lv_at hl 0 rfl) ?_
          refine lv_iload_n hx hb dX12_fit_31 rfl (lv_at hl 1 rfl) ?_
          refine jcg_v (va_runV (As := [.int (iI p1)]) (rest := []) ⟨hx, hb, hml, hown, hts⟩ (sX12_arrange l dC dI _ L cid K N tW sK sV v p0 p1 hI q0 (by omega)) (cwV 1 hts (jgoodV m_1047 m_1048 m_1049 m_873 m_1050) rfl rfl rfl (by decide +kernel) ⟨(Nat.le_of_ble_eq_true rfl), (Nat.le_of_ble_eq_true rfl)⟩) ⟨xP_blind, xrecv hK hP q0 rfl rfl, fun U hU hW => ⟨rfl, xP_of hU hW hP hK hD hX hS (fun _ h => h) hA⟩⟩ rfl rfl hl.1 rfl (lv_room (Nat.le_of_ble_eq_true rfl)) dX12_fit_32 ⟨(Nat.le_of_ble_eq_true rfl), (Nat.le_of_ble_eq_true rfl)⟩) hD hS hA (fun v_17 H locs w_15 hP hK hD hS => ?_)
          obtain ⟨I_19, f_18⟩ := w_15
          have hP : va_P (dC, dI) vwCl (xG L cid K N v_17) H := hP
          have hD : va_D A (xG L cid K N v_17) := hD
          refine lv_aload_n hx hb dX12_fit_35 rfl (lv_at hl 0 rfl) ?_
          have h_20 : ok L K (v p0 17) 3 := xf_12_17 hI q0
          refine gx_RX12_85 (y := v p0 17) hx hb hj hown hK hP q0 ((xf_12_17 I_19 q0).1) (fr_use q0 f_18 rfl) dX12_fit_36 ?_
          refine jcg_v (va_runV (As := []) (rest := []) ⟨hx, hb, hml, hown, hts⟩ (sX3_begin l dC dI _ L cid K N tW sK sV v_17 (v p0 17) I_19 h_20) (cwV 0 hts (jgoodV m_1195 m_1196 m_1197 m_914 m_1198) rfl rfl rfl (by decide +kernel) ⟨(Nat.le_of_ble_eq_true rfl), (Nat.le_of_ble_eq_true rfl)⟩) ⟨xP_blind, xrecv hK hP h_20 rfl rfl, fun U hU hW => ⟨rfl, xP_of hU hW hP hK hD hX hS (fun _ h => h) hA⟩⟩ rfl rfl hl.1 rfl (lv_room (Nat.le_of_ble_eq_true rfl)) dX12_fit_39 ⟨(Nat.le_of_ble_eq_true rfl), (Nat.le_of_ble_eq_true rfl)⟩) hD hS hA (fun v_24 H locs w_22 hP hK hD hS => ?_)
          obtain ⟨I_26, f_25⟩ := w_22
          have hP : va_P (dC, dI) vwCl (xG L cid K N v_24) H := hP
          have hD : va_D A (xG L cid K N v_24) := hD
          refine lv_iconst (v := iI 0) hx hb dX12_fit_42 rfl ?_
          refine lv_istore_n (i := 3) (lv' := [(3, .int (iI 0)), (0, .ref p0.toNat), (1, .int (iI p1)), (2, .int (iI p2))]) hx hb dX12_fit_43 rfl hl (by decide) rfl (fun ls hl => ?_)
          have L44 : ∀ (n44 : Nat) (a3_44 : Int) (vc44 : Int → Int → Int) (H : Heap) (locs : List Loc) (ls : Array Slot), (0 ≤ a3_44 ∧ a3_44 ≤ 2147483647) → (0 < (n44 : Int) ∧ (v_17 p0 9) - a3_44 < (n44 : Int)) → fr K [(3, 5), (3, 6), (33, (-1)), (34, (-1)), (52, (-1))] vc44 v_24 → xI L K N vc44 → va_P (dC, dI) vwCl (xG L cid K N vc44) H → va_D A (xG L cid K N vc44) → va_S A s.heap H locs → lv_has ls 5 [(3, .int (iI a3_44)), (0, .ref p0.toNat), (1, .int (iI p1)), (2, .int (iI p2))] → W p l e ({ frames := 6, cells := 0, slots := 0, locals := 162 }) s m ([.ref p0.toNat, .int (iI p1), .int (iI p2)] : List Value).toArray below meth c H locs 0 0 Q (F0 m 44 ls []) := by
            intro n44
            induction n44 with
            | zero =>
              intro a3_44 vc44 H locs ls h_27 hm44 f_28 I_29 hP hD hS hl
              exfalso; omega
            | succ n44 ih44 =>
              intro a3_44 vc44 H locs ls h_30 hm44 f_31 I_32 hP hD hS hl
              refine lv_iload_n hx hb dX12_fit_44 rfl (lv_at hl 0 rfl) ?_
              refine lv_aload_n hx hb dX12_fit_45 rfl (lv_at hl 1 rfl) ?_
              have h_33 : 0 ≤ v_17 p0 9 ∧ v_17 p0 9 ≤ 60 := xf_12_9 I_19 q0
              refine gx_RX12_268 (y := v_17 p0 9) hx hb hj hown hK hP q0 (((fr_use q0 f_31 rfl)).trans (fr_use q0 f_25 rfl)) dX12_fit_46 ?_
              refine xr_icmp_ge (tgt := 85) hx hb dX12_fit_49 (by decide) (by omega) (by omega) (fun h_34 => ?_) (fun h_34 => ?_)
              · refine lv_aload_n hx hb dX12_fit_85 rfl (lv_at hl 1 rfl) ?_
                refine gx_RX12_85 (y := v p0 17) hx hb hj hown hK hP q0 ((xf_12_17 I_32 q0).1) (((fr_use q0 f_31 rfl)).trans (((fr_use q0 f_25 rfl)).trans (fr_use q0 f_18 rfl))) dX12_fit_86 ?_
                refine lv_iload_n hx hb dX12_fit_89 rfl (lv_at hl 3 rfl) ?_
                refine jcg_i (va_runV (As := [.int (iI p2)]) (rest := []) ⟨hx, hb, hml, hown, hts⟩ (sX3_fitTo l dC dI _ L cid K N tW sK sV vc44 (v p0 17) p2 I_32 h_20 (by omega)) (cwV 1 hts (jgoodV m_1199 m_1200 m_1201 m_914 m_1202) rfl rfl rfl (by decide +kernel) ⟨(Nat.le_of_ble_eq_true rfl), (Nat.le_of_ble_eq_true rfl)⟩) ⟨xP_blind, xrecv hK hP h_20 rfl rfl, fun U hU hW => ⟨rfl, xP_of hU hW hP hK hD hX hS (fun _ h => h) hA⟩⟩ rfl rfl hl.1 rfl (lv_room (Nat.le_of_ble_eq_true rfl)) dX12_fit_90 ⟨(Nat.le_of_ble_eq_true rfl), (Nat.le_of_ble_eq_true rfl)⟩) hD hS hA (fun r_35 v_39 H locs w_36 hP hK hD hS => ?_)
                obtain ⟨z_37, rfl, I_41, f_40, h_38⟩ := w_36
                have hP : va_P (dC, dI) vwCl (xG L cid K N v_39) H := hP
                have hD : va_D A (xG L cid K N v_39) := hD
                rw [← hQ]
                exact W.zret (v := iI z_37) (ty := .boolean) hx hb hr (nb_bool (by omega) (by omega)) (fun t ht hW => ⟨⟨iI z_37, v_39, rfl, ⟨z_37, rfl, I_41, (fr_tr f_40 rfl (fr_tr f_31 rfl (fr_tr f_25 rfl (fr_tr f_18 rfl fr_rf)))), by omega⟩, by rw [ht]; exact hP, va_K.moved hW.alike hK, hD⟩, hS.F ht⟩) hS.2.2 dX12_fit_93
              · refine lv_aload_n hx hb dX12_fit_52 rfl (lv_at hl 1 rfl) ?_
                refine lv_iload_n hx hb dX12_fit_53 rfl (lv_at hl 0 rfl) ?_
                refine jc_q (va_runV (As := [.int (iI a3_44)]) (rest := []) ⟨hx, hb, hml, hown, hts⟩ (sX12_inRow l dC dI _ L cid K N tW sK sV vc44 p0 a3_44 I_32 q0 (by omega)) (cwV 1 hts (jgoodV m_1149 m_1150 m_1151 m_873 m_1152) rfl rfl rfl (by decide +kernel) ⟨(Nat.le_of_ble_eq_true rfl), (Nat.le_of_ble_eq_true rfl)⟩) ⟨xP_blind, xrecv hK hP q0 rfl rfl, fun U hU hW => ⟨rfl, xP_of hU hW hP hK hD hX hS (fun _ h => h) hA⟩⟩ rfl rfl hl.1 rfl (lv_room (Nat.le_of_ble_eq_true rfl)) dX12_fit_54 ⟨(Nat.le_of_ble_eq_true rfl), (Nat.le_of_ble_eq_true rfl)⟩) hP hS hA (fun r_42 H locs w_43 hP hS => ?_)
                obtain ⟨z_44, rfl, h_45⟩ := w_43
                refine jt_q (rv z_44) rfl ?_
                refine xq_astore (i := 4) (lv' := [(4, rv z_44), (3, .int (iI a3_44)), (0, .ref p0.toNat), (1, .int (iI p1)), (2, .int (iI p2))]) hx hb dX12_fit_57 hl (by decide) rfl (fun ls hl => ?_)
                refine xq_aload hx hb dX12_fit_59 (lv_at hl 0 rfl) ?_
                have J79 : ∀ (vc79 : Int → Int → Int) (H : Heap) (locs : List Loc) (ls : Array Slot), fr K [(3, 5), (3, 6), (33, (-1)), (34, (-1)), (52, (-1))] vc79 vc44 → xI L K N vc79 → va_P (dC, dI) vwCl (xG L cid K N vc79) H → va_D A (xG L cid K N vc79) → va_S A s.heap H locs → lv_has ls 5 [(4, rv z_44), (3, .int (iI a3_44)), (0, .ref p0.toNat), (1, .int (iI p1)), (2, .int (iI p2))] → W p l e ({ frames := 6, cells := 0, slots := 0, locals := 162 }) s m ([.ref p0.toNat, .int (iI p1), .int (iI p2)] : List Value).toArray below meth c H locs 0 0 Q (F0 m 79 ls []) := by
                  intro vc79 H locs ls f_46 I_47 hP hD hS hl
                  refine lv_iinc (v := iI (a3_44 + 1)) (lv' := [(3, .int (iI (a3_44 + 1))), (4, rv z_44), (0, .ref p0.toNat), (1, .int (iI p1)), (2, .int (iI p2))]) hx hb dX12_fit_79 hl (k := 1) rfl (iI_add _ _) (by decide) rfl (fun ls hl => ?_)
                  refine lv_goto (tgt := 44) hx hb dX12_fit_82 (by decide) ?_
                  exact ih44 (a3_44 + 1) vc79 H locs ls (by omega) (by omega) (fr_tr f_46 rfl (fr_tr f_31 rfl fr_rf)) I_47 hP hD hS (lv_sub hl [0, 2, 3, 4] rfl)
                refine xq_ifnull (tgt := 79) hx hb dX12_fit_61 (by decide) (fun h_48 => ?_) (fun h_48 => ?_)
                · exact J79 vc44 H locs ls fr_rf I_32 hP hD hS hl
                · have h_49 : ok L K z_44 0 := h_45.resolve_left (by omega)
                  refine lv_aload_n hx hb dX12_fit_64 rfl (lv_at hl 2 rfl) ?_
                  refine xq_aload hx hb dX12_fit_65 (lv_at hl 0 rfl) ?_
                  refine jt_q (.ref z_44.toNat) (rv_ref (h_49).1) ?_
                  refine jc_i (va_runV (As := [.ref z_44.toNat]) (rest := []) ⟨hx, hb, hml, hown, hts⟩ (sX12_isStruck l dC dI _ L cid K N tW sK sV vc44 p0 z_44 I_32 q0 h_49) (cwV 1 hts (jgoodV m_1060 m_1061 m_1062 m_873 m_1063) rfl rfl rfl (by decide +kernel) ⟨(Nat.le_of_ble_eq_true rfl), (Nat.le_of_ble_eq_true rfl)⟩) ⟨xP_blind, xrecv hK hP q0 rfl rfl, fun U hU hW => ⟨rfl, xP_of hU hW hP hK hD hX hS (fun _ h => h) hA⟩⟩ rfl rfl hl.1 rfl (lv_room (Nat.le_of_ble_eq_true rfl)) dX12_fit_67 ⟨(Nat.le_of_ble_eq_true rfl), (Nat.le_of_ble_eq_true rfl)⟩) hP hS hA (fun r_50 H locs w_51 hP hS => ?_)
                  obtain ⟨z_52, rfl, h_53⟩ := w_51
                  refine xr_if_ne (tgt := 79) hx hb dX12_fit_70 (by decide) (by omega) (fun h_54 => ?_) (fun h_54 => ?_)
                  · exact J79 vc44 H locs ls fr_rf I_32 hP hD hS hl
                  · refine lv_aload_n hx hb dX12_fit_73 rfl (lv_at hl 2 rfl) ?_
                    refine xq_aload hx hb dX12_fit_74 (lv_at hl 0 rfl) ?_
                    refine jt_q (.ref z_44.toNat) (rv_ref (h_49).1) ?_
                    refine jcg_v (va_runV (As := [.ref z_44.toNat]) (rest := []) ⟨hx, hb, hml, hown, hts⟩ (sX12_addToFitting l dC dI _ L cid K N tW sK sV vc44 p0 z_44 I_32 q0 h_49) (cwV 1 hts (jgoodV m_1203 m_1204 m_1205 m_873 m_1206) rfl rfl rfl (by decide +kernel) ⟨(Nat.le_of_ble_eq_true rfl), (Nat.le_of_ble_eq_true rfl)⟩) ⟨xP_blind, xrecv hK hP q0 rfl rfl, fun U hU hW => ⟨rfl, xP_of hU hW hP hK hD hX hS (fun _ h => h) hA⟩⟩ rfl rfl hl.1 rfl (lv_room (Nat.le_of_ble_eq_true rfl)) dX12_fit_76 ⟨(Nat.le_of_ble_eq_true rfl), (Nat.le_of_ble_eq_true rfl)⟩) hD hS hA (fun v_58 H locs w_56 hP hK hD hS => ?_)
                    obtain ⟨I_60, f_59⟩ := w_56
                    have hP : va_P (dC, dI) vwCl (xG L cid K N v_58) H := hP
                    have hD : va_D A (xG L cid K N v_58) := hD
                    exact J79 v_58 H locs ls (fr_tr f_59 rfl fr_rf) I_60 hP hD hS hl
          exact L44 ((((v_17 p0 9) - 0 : Int)).toNat + 1) 0 v_24 H locs ls (by omega) (by omega) fr_rf I_26 hP hD hS hl
        · refine lv_iconst (v := iI 0) hx hb dX12_fit_28 rfl ?_
          rw [← hQ]
          exact W.zret (v := iI 0) (ty := .boolean) hx hb hr (nb_bool (by omega) (by omega)) (fun t ht hW => ⟨⟨iI 0, v, rfl, ⟨0, rfl, hI, fr_rf, by omega⟩, by rw [ht]; exact hP, va_K.moved hW.alike hK, hD⟩, hS.F ht⟩) hS.2.2 dX12_fit_29
