set_option maxHeartbeats 2000000 in
set_option maxRecDepth 100000 in
theorem sX8_valueOf (l : Launch) (dC : Nat → ClassId) (dI : Nat → Nat → Nat) (sz : Nat) (L : List Nat) (cid : Nat → ClassId) (K : Int → Nat) (N : Int → Int) (tW : Nat) (sK sV : Nat → Nat) (v : Int → Int → Int) (p0 : Int) (p1 : Int) (p2 : Int) (p3 : Int) (hI : xI L K N v) (q0 : ok L K p0 8) (q1 : rg p1) (q2 : rg p2) (q3 : rg p3) : Met l yX8_valueOf (jk yX8_valueOf cX8_valueOf 6 (some .int)) ({ frames := 3, cells := 0, slots := 0, locals := 90 }) (va_Pc [.ref p0.toNat, .int (iI p1), .int (iI p2), .int (iI p3)] (xP (dC, dI) (xG L cid K N v) (xT cid) tW sK sV sz)) (va_Qi (fun (r : Int32) (u : (Int → Int → Int)) => ∃ z : Int, r = iI z ∧ (xI L K N u) ∧ (fr K [(34, (-1))] u v) ∧ (rg z)) (fun u t => va_P (dC, dI) vwCl (xG L cid K N u) t.heap ∧ va_K (dC, dI) vwCl (xT cid) t ∧ va_D (va_A (xG L cid K N v) sz) (xG L cid K N u)) (va_A (xG L cid K N v) sz)) 0 0 (va_A (xG L cid K N v) sz) := by
  refine Met.ofW (cc := cX8_valueOf) (maxL := 6) (ret := (some .int)) (by decide) rfl ?_
  intro p e s m args below meth c s₁ B hml hv
  obtain ⟨rfl, ⟨hsz, hP, hK, hD0⟩, hX⟩ := hv
  have hx := B.exec
  have hb := B.bytes
  have hr := B.returns
  have hts := atoms_spec (ws := (jk yX8_valueOf cX8_valueOf 6 (some .int))) B.pre
  have hj : ∀ w ∈ jw, w.before ([.ref p0.toNat, .int (iI p1), .int (iI p2), .int (iI p3)] : List Value).toArray s = true := fun w h => hts w (jm h)
  have hown : s.vm.findClass RX8 = some m.cls := findClass_of_methodNamed B.named
  subst hsz
  have hD := hD0.self (sz := s.heap.size)
  generalize hAe : (va_A (xG L cid K N v) s.heap.size) = A at hD hX ⊢
  have hA : ∀ q : Nat, s.heap.size ≤ q → A q := fun q h => by rw [← hAe]; exact Or.inr h
  have hS : va_S A s.heap s.heap [] := va_S.rf
  have hXa := hX
  have hP : va_P (dC, dI) vwCl (xG L cid K N v) s.heap := hP
  have hl := lv_entry ([.ref p0.toNat, .int (iI p1), .int (iI p2), .int (iI p3)]) (n := 6) (Nat.le_of_ble_eq_true rfl)
  rw [lg_entry_eq]
  generalize (lg_sl ([.ref p0.toNat, .int (iI p1), .int (iI p2), .int (iI p3)]) ++ List.replicate (6 - (lg_sl ([.ref p0.toNat, .int (iI p1), .int (iI p2), .int (iI p3)])).length) Slot.unset).toArray = ls at hl ⊢
  have hl : lv_has ls 6 [(0, .ref p0.toNat), (1, .int (iI p1)), (2, .int (iI p2)), (3, .int (iI p3))] := hl
  generalize hQ : MQ below (va_Qi (fun (r : Int32) (u : (Int → Int → Int)) => ∃ z : Int, r = iI z ∧ (xI L K N u) ∧ (fr K [(34, (-1))] u v) ∧ (rg z)) (fun u t => va_P (dC, dI) vwCl (xG L cid K N u) t.heap ∧ va_K (dC, dI) vwCl (xT cid) t ∧ va_D A (xG L cid K N u)) A) ([.ref p0.toNat, .int (iI p1), .int (iI p2), .int (iI p3)] : List Value).toArray s 0 0 A = Q
  suffices ST : ∀ (H : Heap) (locs : List Loc), va_P (dC, dI) vwCl (xG L cid K N v) H → va_S A s.heap H locs → W p l e ({ frames := 3, cells := 0, slots := 0, locals := 90 }) s m ([.ref p0.toNat, .int (iI p1), .int (iI p2), .int (iI p3)] : List Value).toArray below meth c H locs 0 0 Q (F0 m 0 ls []) from ST _ _ hP hS
  clear hP hS
  intro H locs hP hS
  refine lv_iload_n hx hb dX8_valueOf_0 rfl (lv_at hl 1 rfl) ?_
  refine xr_if_lt (tgt := 12) hx hb dX8_valueOf_1 (by decide) (by omega) (fun h_1 => ?_) (fun h_1 => ?_)
  · refine lv_iconst (v := iI 0) hx hb dX8_valueOf_12 rfl ?_
    rw [← hQ]
    exact W.iret (v := iI 0) hx hb hr (fun t ht hW => ⟨⟨iI 0, v, rfl, ⟨0, rfl, hI, fr_rf, by omega⟩, by rw [ht]; exact hP, va_K.moved hW.alike hK, hD⟩, hS.F ht⟩) hS.2.2 dX8_valueOf_13
  · refine lv_iload_n hx hb dX8_valueOf_4 rfl (lv_at hl 1 rfl) ?_
    refine xw_gs hx hb hown hXa.2.1.1 hS (hj _ m_945) dX8_valueOf_5 ?_
    refine xw_len hx hb hXa.2.1.2 hS dX8_valueOf_8 ?_
    refine xr_icmp_lt (tgt := 14) hx hb dX8_valueOf_9 (by decide) (by omega) (by omega) (fun h_2 => ?_) (fun h_2 => ?_)
    · refine lv_aload_n hx hb dX8_valueOf_14 rfl (lv_at hl 0 rfl) ?_
      refine lv_iload_n hx hb dX8_valueOf_15 rfl (lv_at hl 1 rfl) ?_
      refine lv_iload_n hx hb dX8_valueOf_16 rfl (lv_at hl 2 rfl) ?_
      refine lv_iload_n hx hb dX8_valueOf_17 rfl (lv_at hl 3 rfl) ?_
      refine jc_i (va_runV (As := [.int (iI p1), .int (iI p2), .int (iI p3)]) (rest := []) ⟨hx, hb, hml, hown, hts⟩ (sX8_inForce l dC dI _ L cid K N tW sK sV v p0 p1 p2 p3 hI q0 (by omega) (by omega) (by omega)) (cwV 3 hts (jgoodV m_946 m_947 m_948 m_927 m_949) rfl rfl rfl (by decide +kernel) ⟨(Nat.le_of_ble_eq_true rfl), (Nat.le_of_ble_eq_true rfl)⟩) ⟨xP_blind, xrecv hK hP q0 rfl rfl, fun U hU hW => ⟨rfl, xP_of hU hW hP hK hD hX hS (fun _ h => h) hA⟩⟩ rfl rfl hl.1 rfl (lv_room (Nat.le_of_ble_eq_true rfl)) dX8_valueOf_18 ⟨(Nat.le_of_ble_eq_true rfl), (Nat.le_of_ble_eq_true rfl)⟩) hP hS hA (fun r_3 H locs w_4 hP hS => ?_)
      obtain ⟨z_5, rfl, h_6⟩ := w_4
      refine lv_istore (lv' := [(4, .int (iI z_5)), (0, .ref p0.toNat), (1, .int (iI p1)), (2, .int (iI p2)), (3, .int (iI p3))]) hx hb dX8_valueOf_21 hl (by decide) rfl (fun ls hl => ?_)
      refine lv_iload hx hb dX8_valueOf_23 (lv_at hl 0 rfl) ?_
      have J46 : ∀ (s0_46 : Int) (H : Heap) (locs : List Loc) (ls : Array Slot), (s0_46 < 0 ∨ ok L K s0_46 9) → va_P (dC, dI) vwCl (xG L cid K N v) H → va_D A (xG L cid K N v) → va_S A s.heap H locs → lv_has ls 6 [(4, .int (iI z_5)), (0, .ref p0.toNat), (1, .int (iI p1)), (2, .int (iI p2)), (3, .int (iI p3))] → W p l e ({ frames := 3, cells := 0, slots := 0, locals := 90 }) s m ([.ref p0.toNat, .int (iI p1), .int (iI p2), .int (iI p3)] : List Value).toArray below meth c H locs 0 0 Q (F0 m 46 ls [rv s0_46]) := by
        intro s0_46 H locs ls h_7 hP hD hS hl
        refine xq_astore (lv' := [(5, rv s0_46), (4, .int (iI z_5)), (0, .ref p0.toNat), (1, .int (iI p1)), (2, .int (iI p2)), (3, .int (iI p3))]) hx hb dX8_valueOf_46 hl (by decide) rfl (fun ls hl => ?_)
        refine xq_aload hx hb dX8_valueOf_48 (lv_at hl 0 rfl) ?_
        refine xq_ifnonnull (tgt := 61) hx hb dX8_valueOf_50 (by decide) (fun h_8 => ?_) (fun h_8 => ?_)
        · have h_9 : ok L K s0_46 9 := h_7.resolve_left (by omega)
          refine lv_aload_n hx hb dX8_valueOf_61 rfl (lv_at hl 2 rfl) ?_
          refine xq_aload hx hb dX8_valueOf_62 (lv_at hl 0 rfl) ?_
          refine jt_q (.ref s0_46.toNat) (rv_ref (h_9).1) ?_
          refine lv_iload_n hx hb dX8_valueOf_64 rfl (lv_at hl 3 rfl) ?_
          refine jcg_i (va_runV (As := [.ref s0_46.toNat, .int (iI p1)]) (rest := []) ⟨hx, hb, hml, hown, hts⟩ (sX8_run l dC dI _ L cid K N tW sK sV v p0 s0_46 p1 hI q0 h_9 (by omega)) (cwV 2 hts (jgoodV m_950 m_951 m_952 m_927 m_953) rfl rfl rfl (by decide +kernel) ⟨(Nat.le_of_ble_eq_true rfl), (Nat.le_of_ble_eq_true rfl)⟩) ⟨xP_blind, xrecv hK hP q0 rfl rfl, fun U hU hW => ⟨rfl, xP_of hU hW hP hK hD hX hS (fun _ h => h) hA⟩⟩ rfl rfl hl.1 rfl (lv_room (Nat.le_of_ble_eq_true rfl)) dX8_valueOf_65 ⟨(Nat.le_of_ble_eq_true rfl), (Nat.le_of_ble_eq_true rfl)⟩) hD hS hA (fun r_10 v_14 H locs w_11 hP hK hD hS => ?_)
          obtain ⟨z_12, rfl, I_16, f_15, h_13⟩ := w_11
          have hP : va_P (dC, dI) vwCl (xG L cid K N v_14) H := hP
          have hD : va_D A (xG L cid K N v_14) := hD
          rw [← hQ]
          exact W.iret (v := iI z_12) hx hb hr (fun t ht hW => ⟨⟨iI z_12, v_14, rfl, ⟨z_12, rfl, I_16, (fr_tr f_15 rfl fr_rf), by omega⟩, by rw [ht]; exact hP, va_K.moved hW.alike hK, hD⟩, hS.F ht⟩) hS.2.2 dX8_valueOf_68
        · refine xw_gs hx hb hown hXa.2.1.1 hS (hj _ m_945) dX8_valueOf_53 ?_
          refine lv_iload_n hx hb dX8_valueOf_56 rfl (lv_at hl 3 rfl) ?_
          refine xw_ld hx hb hXa.2.1.2 hS (by omega) (by omega) dX8_valueOf_57 (fun z_17 h_18 => ?_)
          refine lv_goto (tgt := 68) hx hb dX8_valueOf_58 (by decide) ?_
          rw [← hQ]
          exact W.iret (v := iI z_17) hx hb hr (fun t ht hW => ⟨⟨iI z_17, v, rfl, ⟨z_17, rfl, hI, fr_rf, by omega⟩, by rw [ht]; exact hP, va_K.moved hW.alike hK, hD⟩, hS.F ht⟩) hS.2.2 dX8_valueOf_68
      have J45 : ∀ (H : Heap) (locs : List Loc) (ls : Array Slot), va_P (dC, dI) vwCl (xG L cid K N v) H → va_D A (xG L cid K N v) → va_S A s.heap H locs → lv_has ls 6 [(4, .int (iI z_5)), (0, .ref p0.toNat), (1, .int (iI p1)), (2, .int (iI p2)), (3, .int (iI p3))] → W p l e ({ frames := 3, cells := 0, slots := 0, locals := 90 }) s m ([.ref p0.toNat, .int (iI p1), .int (iI p2), .int (iI p3)] : List Value).toArray below meth c H locs 0 0 Q (F0 m 45 ls []) := by
        intro H locs ls hP hD hS hl
        refine lv_null hx hb dX8_valueOf_45 ?_
        refine jt_q (rv (-1)) rv_nul ?_
        exact J46 (-1) H locs ls (Or.inl (by decide)) hP hD hS hl
      refine xr_if_lt (tgt := 45) hx hb dX8_valueOf_25 (by decide) (by omega) (fun h_19 => ?_) (fun h_19 => ?_)
      · exact J45 H locs ls hP hD hS hl
      · refine lv_iload hx hb dX8_valueOf_28 (lv_at hl 0 rfl) ?_
        refine lv_bipush (v := iI 12) hx hb dX8_valueOf_30 rfl ?_
        refine xr_icmp_ge (tgt := 45) hx hb dX8_valueOf_32 (by decide) (by omega) (by omega) (fun h_20 => ?_) (fun h_20 => ?_)
        · exact J45 H locs ls hP hD hS hl
        · refine lv_aload_n hx hb dX8_valueOf_35 rfl (lv_at hl 1 rfl) ?_
          have h_21 : ok L K (v p0 0) 29 := xf_8_0 hI q0
          have h_22 : N (v p0 0) = 12 := xn_29 hI h_21
          refine gx_RX8_13 (y := v p0 0) hx hb hj hown hK hP q0 ((xf_8_0 hI q0).1) rfl dX8_valueOf_36 ?_
          refine lv_iload hx hb dX8_valueOf_39 (lv_at hl 0 rfl) ?_
          have h_23 : v (v p0 0) z_5 < 0 ∨ ok L K (v (v p0 0) z_5) 9 := xe_29 hI h_21 (by omega)
          refine ax_29 (y := v (v p0 0) z_5) hx hb hK hP h_21 (by omega) (by omega) (by omega) rfl dX8_valueOf_41 ?_
          refine lv_goto (tgt := 46) hx hb dX8_valueOf_42 (by decide) ?_
          exact J46 (v (v p0 0) z_5) H locs ls h_23 hP hD hS hl
    · refine lv_iconst (v := iI 0) hx hb dX8_valueOf_12 rfl ?_
      rw [← hQ]
      exact W.iret (v := iI 0) hx hb hr (fun t ht hW => ⟨⟨iI 0, v, rfl, ⟨0, rfl, hI, fr_rf, by omega⟩, by rw [ht]; exact hP, va_K.moved hW.alike hK, hD⟩, hS.F ht⟩) hS.2.2 dX8_valueOf_13
set_option maxHeartbeats 2000000 in
set_option maxRecDepth 100000 in
theorem sX6_take (l : Launch) (dC : Nat → ClassId) (dI : Nat → Nat → Nat) (sz : Nat) (L : List Nat) (cid : Nat → ClassId) (K : Int → Nat) (N : Int → Int) (tW : Nat) (sK sV : Nat → Nat) (v : Int → Int → Int) (p0 : Int) (p1 : Int) (p2 : Int) (hI : xI L K N v) (q0 : ok L K p0 6) (q1 : rg p1) (q2 : rg p2) : Met l yX6_take (jk yX6_take cX6_take 3 none) ({ frames := 4, cells := 0, slots := 0, locals := 115 }) (va_Pc [.ref p0.toNat, .int (iI p1), .int (iI p2)] (xP (dC, dI) (xG L cid K N v) (xT cid) tW sK sV sz)) (va_Qv (fun (u : (Int → Int → Int)) => (xI L K N u) ∧ (fr K [(6, 1), (6, 2), (6, 3), (6, 4), (6, 5), (34, (-1))] u v)) (fun u t => va_P (dC, dI) vwCl (xG L cid K N u) t.heap ∧ va_K (dC, dI) vwCl (xT cid) t ∧ va_D (va_A (xG L cid K N v) sz) (xG L cid K N u)) (va_A (xG L cid K N v) sz)) 0 0 (va_A (xG L cid K N v) sz) := by
  refine Met.ofW (cc := cX6_take) (maxL := 3) (ret := none) (by decide) rfl ?_
  intro p e s m args below meth c s₁ B hml hv
  obtain ⟨rfl, ⟨hsz, hP, hK, hD0⟩, hX⟩ := hv
  have hx := B.exec
  have hb := B.bytes
  have hr := B.returns
  have hts := atoms_spec (ws := (jk yX6_take cX6_take 3 none)) B.pre
  have hj : ∀ w ∈ jw, w.before ([.ref p0.toNat, .int (iI p1), .int (iI p2)] : List Value).toArray s = true := fun w h => hts w (jm h)
  have hown : s.vm.findClass RX6 = some m.cls := findClass_of_methodNamed B.named
  subst hsz
  have hD := hD0.self (sz := s.heap.size)
  generalize hAe : (va_A (xG L cid K N v) s.heap.size) = A at hD hX ⊢
  have hA : ∀ q : Nat, s.heap.size ≤ q → A q := fun q h => by rw [← hAe]; exact Or.inr h
  have hS : va_S A s.heap s.heap [] := va_S.rf
  have hXa := hX
  have hP : va_P (dC, dI) vwCl (xG L cid K N v) s.heap := hP
  have hl := lv_entry ([.ref p0.toNat, .int (iI p1), .int (iI p2)]) (n := 3) (Nat.le_of_ble_eq_true rfl)
  rw [lg_entry_eq]
  generalize (lg_sl ([.ref p0.toNat, .int (iI p1), .int (iI p2)]) ++ List.replicate (3 - (lg_sl ([.ref p0.toNat, .int (iI p1), .int (iI p2)])).length) Slot.unset).toArray = ls at hl ⊢
  have hl : lv_has ls 3 [(0, .ref p0.toNat), (1, .int (iI p1)), (2, .int (iI p2))] := hl
  generalize hQ : MQ below (va_Qv (fun (u : (Int → Int → Int)) => (xI L K N u) ∧ (fr K [(6, 1), (6, 2), (6, 3), (6, 4), (6, 5), (34, (-1))] u v)) (fun u t => va_P (dC, dI) vwCl (xG L cid K N u) t.heap ∧ va_K (dC, dI) vwCl (xT cid) t ∧ va_D A (xG L cid K N u)) A) ([.ref p0.toNat, .int (iI p1), .int (iI p2)] : List Value).toArray s 0 0 A = Q
  suffices ST : ∀ (H : Heap) (locs : List Loc), va_P (dC, dI) vwCl (xG L cid K N v) H → va_S A s.heap H locs → W p l e ({ frames := 4, cells := 0, slots := 0, locals := 115 }) s m ([.ref p0.toNat, .int (iI p1), .int (iI p2)] : List Value).toArray below meth c H locs 0 0 Q (F0 m 0 ls []) from ST _ _ hP hS
  clear hP hS
  intro H locs hP hS
  refine lv_aload_n hx hb dX6_take_0 rfl (lv_at hl 0 rfl) ?_
  refine lv_iload_n hx hb dX6_take_1 rfl (lv_at hl 1 rfl) ?_
  refine px_RX6_13 (y := p1) hx hb hj hown hK hP hD hS hI q0 ⟨by omega, by omega⟩ dX6_take_2 (fun v_1 H locs f_2 e_3 o_4 I_5 hP hD hS => ?_)
  refine lv_aload_n hx hb dX6_take_5 rfl (lv_at hl 0 rfl) ?_
  refine lv_iload_n hx hb dX6_take_6 rfl (lv_at hl 2 rfl) ?_
  refine px_RX6_17 (y := p2) hx hb hj hown hK hP hD hS I_5 q0 ⟨by omega, by omega⟩ dX6_take_7 (fun v_6 H locs f_7 e_8 o_9 I_10 hP hD hS => ?_)
  refine lv_aload_n hx hb dX6_take_10 rfl (lv_at hl 0 rfl) ?_
  refine lv_iconst (v := iI 1) hx hb dX6_take_11 rfl ?_
  refine px_RX6_20 (y := 1) hx hb hj hown hK hP hD hS I_10 q0 ⟨by omega, by omega⟩ dX6_take_12 (fun v_11 H locs f_12 e_13 o_14 I_15 hP hD hS => ?_)
  refine lv_aload_n hx hb dX6_take_15 rfl (lv_at hl 0 rfl) ?_
  refine lv_aload_n hx hb dX6_take_16 rfl (lv_at hl 0 rfl) ?_
  have h_16 : ok L K (v p0 0) 8 := xf_6_0 hI q0
  refine gx_RX6_7 (y := v p0 0) hx hb hj hown hK hP q0 ((xf_6_0 I_15 q0).1) (((fr_use q0 f_12 rfl)).trans (((fr_use q0 f_7 rfl)).trans (fr_use q0 f_2 rfl))) dX6_take_17 ?_
  refine lv_iconst (v := iI 1) hx hb dX6_take_20 rfl ?_
  refine lv_iload_n hx hb dX6_take_21 rfl (lv_at hl 1 rfl) ?_
  refine lv_iload_n hx hb dX6_take_22 rfl (lv_at hl 2 rfl) ?_
  refine jcg_i (va_runV (As := [.int (iI 1), .int (iI p1), .int (iI p2)]) (rest := [.ref p0.toNat]) ⟨hx, hb, hml, hown, hts⟩ (sX8_valueOf l dC dI _ L cid K N tW sK sV v_11 (v p0 0) 1 p1 p2 I_15 h_16 (by omega) (by omega) (by omega)) (cwV 3 hts (jgoodV m_954 m_955 m_956 m_927 m_957) rfl rfl rfl (by decide +kernel) ⟨(Nat.le_of_ble_eq_true rfl), (Nat.le_of_ble_eq_true rfl)⟩) ⟨xP_blind, xrecv hK hP h_16 rfl rfl, fun U hU hW => ⟨rfl, xP_of hU hW hP hK hD hX hS (fun _ h => h) hA⟩⟩ rfl rfl hl.1 rfl (lv_room (Nat.le_of_ble_eq_true rfl)) dX6_take_23 ⟨(Nat.le_of_ble_eq_true rfl), (Nat.le_of_ble_eq_true rfl)⟩) hD hS hA (fun r_17 v_21 H locs w_18 hP hK hD hS => ?_)
  obtain ⟨z_19, rfl, I_23, f_22, h_20⟩ := w_18
  have hP : va_P (dC, dI) vwCl (xG L cid K N v_21) H := hP
  have hD : va_D A (xG L cid K N v_21) := hD
  have J34 : ∀ (s0_34 : Int) (H : Heap) (locs : List Loc) (ls : Array Slot), (0 ≤ s0_34 ∧ s0_34 ≤ 1) → va_P (dC, dI) vwCl (xG L cid K N v_21) H → va_D A (xG L cid K N v_21) → va_S A s.heap H locs → lv_has ls 3 [(0, .ref p0.toNat), (1, .int (iI p1)), (2, .int (iI p2))] → W p l e ({ frames := 4, cells := 0, slots := 0, locals := 115 }) s m ([.ref p0.toNat, .int (iI p1), .int (iI p2)] : List Value).toArray below meth c H locs 0 0 Q (F0 m 34 ls [.int (iI s0_34), .ref p0.toNat]) := by
    intro s0_34 H locs ls h_24 hP hD hS hl
    refine px_RX6_32 (y := s0_34) hx hb hj hown hK hP hD hS I_23 q0 ⟨by omega, by omega⟩ dX6_take_34 (fun v_25 H locs f_26 e_27 o_28 I_29 hP hD hS => ?_)
    refine lv_aload_n hx hb dX6_take_37 rfl (lv_at hl 0 rfl) ?_
    refine lv_aload_n hx hb dX6_take_38 rfl (lv_at hl 0 rfl) ?_
    refine gx_RX6_7 (y := v p0 0) hx hb hj hown hK hP q0 ((xf_6_0 I_29 q0).1) (((fr_use q0 f_26 rfl)).trans (((fr_use q0 f_22 rfl)).trans (((fr_use q0 f_12 rfl)).trans (((fr_use q0 f_7 rfl)).trans (fr_use q0 f_2 rfl))))) dX6_take_39 ?_
    refine lv_iconst (v := iI 0) hx hb dX6_take_42 rfl ?_
    refine lv_iload_n hx hb dX6_take_43 rfl (lv_at hl 1 rfl) ?_
    refine lv_iload_n hx hb dX6_take_44 rfl (lv_at hl 2 rfl) ?_
    refine jcg_i (va_runV (As := [.int (iI 0), .int (iI p1), .int (iI p2)]) (rest := [.ref p0.toNat]) ⟨hx, hb, hml, hown, hts⟩ (sX8_valueOf l dC dI _ L cid K N tW sK sV v_25 (v p0 0) 0 p1 p2 I_29 h_16 (by omega) (by omega) (by omega)) (cwV 3 hts (jgoodV m_954 m_955 m_956 m_927 m_957) rfl rfl rfl (by decide +kernel) ⟨(Nat.le_of_ble_eq_true rfl), (Nat.le_of_ble_eq_true rfl)⟩) ⟨xP_blind, xrecv hK hP h_16 rfl rfl, fun U hU hW => ⟨rfl, xP_of hU hW hP hK hD hX hS (fun _ h => h) hA⟩⟩ rfl rfl hl.1 rfl (lv_room (Nat.le_of_ble_eq_true rfl)) dX6_take_45 ⟨(Nat.le_of_ble_eq_true rfl), (Nat.le_of_ble_eq_true rfl)⟩) hD hS hA (fun r_30 v_34 H locs w_31 hP hK hD hS => ?_)
    obtain ⟨z_32, rfl, I_36, f_35, h_33⟩ := w_31
    have hP : va_P (dC, dI) vwCl (xG L cid K N v_34) H := hP
    have hD : va_D A (xG L cid K N v_34) := hD
    refine xr_if_eq (tgt := 55) hx hb dX6_take_48 (by decide) (by omega) (fun h_37 => ?_) (fun h_37 => ?_)
    · refine lv_iconst (v := iI 0) hx hb dX6_take_55 rfl ?_
      refine px_RX6_35 (y := 0) hx hb hj hown hK hP hD hS I_36 q0 ⟨by omega, by omega⟩ dX6_take_56 (fun v_38 H locs f_39 e_40 o_41 I_42 hP hD hS => ?_)
      rw [← hQ]
      exact W.vret hx hb hr (fun t ht hW => ⟨⟨v_38, rfl, ⟨I_42, (fr_tr f_39 rfl (fr_tr f_35 rfl (fr_tr f_26 rfl (fr_tr f_22 rfl (fr_tr f_12 rfl (fr_tr f_7 rfl (fr_tr f_2 rfl fr_rf)))))))⟩, by rw [ht]; exact hP, va_K.moved hW.alike hK, hD⟩, hS.F ht⟩) hS.2.2 dX6_take_59
    · refine lv_iconst (v := iI 1) hx hb dX6_take_51 rfl ?_
      refine lv_goto (tgt := 56) hx hb dX6_take_52 (by decide) ?_
      refine px_RX6_35 (y := 1) hx hb hj hown hK hP hD hS I_36 q0 ⟨by omega, by omega⟩ dX6_take_56 (fun v_43 H locs f_44 e_45 o_46 I_47 hP hD hS => ?_)
      rw [← hQ]
      exact W.vret hx hb hr (fun t ht hW => ⟨⟨v_43, rfl, ⟨I_47, (fr_tr f_44 rfl (fr_tr f_35 rfl (fr_tr f_26 rfl (fr_tr f_22 rfl (fr_tr f_12 rfl (fr_tr f_7 rfl (fr_tr f_2 rfl fr_rf)))))))⟩, by rw [ht]; exact hP, va_K.moved hW.alike hK, hD⟩, hS.F ht⟩) hS.2.2 dX6_take_59
  refine xr_if_eq (tgt := 33) hx hb dX6_take_26 (by decide) (by omega) (fun h_48 => ?_) (fun h_48 => ?_)
  · refine lv_iconst (v := iI 0) hx hb dX6_take_33 rfl ?_
    exact J34 0 H locs ls (by omega) hP hD hS hl
  · refine lv_iconst (v := iI 1) hx hb dX6_take_29 rfl ?_
    refine lv_goto (tgt := 34) hx hb dX6_take_30 (by decide) ?_
    exact J34 1 H locs ls (by omega) hP hD hS hl
set_option maxHeartbeats 2000000 in
set_option maxRecDepth 100000 in
theorem sX6_turn (l : Launch) (dC : Nat → ClassId) (dI : Nat → Nat → Nat) (sz : Nat) (L : List Nat) (cid : Nat → ClassId) (K : Int → Nat) (N : Int → Int) (tW : Nat) (sK sV : Nat → Nat) (v : Int → Int → Int) (p0 : Int) (p1 : Int) (hI : xI L K N v) (q0 : ok L K p0 6) (q1 : rg p1) : Met l yX6_turn (jk yX6_turn cX6_turn 2 none) ({ frames := 0, cells := 0, slots := 0, locals := 0 }) (va_Pc [.ref p0.toNat, .int (iI p1)] (xP (dC, dI) (xG L cid K N v) (xT cid) tW sK sV sz)) (va_Qv (fun (u : (Int → Int → Int)) => (xI L K N u) ∧ (fr K [(6, 3), (6, 4), (6, 5)] u v)) (fun u t => va_P (dC, dI) vwCl (xG L cid K N u) t.heap ∧ va_K (dC, dI) vwCl (xT cid) t ∧ va_D (va_A (xG L cid K N v) sz) (xG L cid K N u)) (va_A (xG L cid K N v) sz)) 0 0 (va_A (xG L cid K N v) sz) := by
  refine Met.ofW (cc := cX6_turn) (maxL := 2) (ret := none) (by decide) rfl ?_
  intro p e s m args below meth c s₁ B hml hv
  obtain ⟨rfl, ⟨hsz, hP, hK, hD0⟩, hX⟩ := hv
  have hx := B.exec
  have hb := B.bytes
  have hr := B.returns
  have hts := atoms_spec (ws := (jk yX6_turn cX6_turn 2 none)) B.pre
  have hj : ∀ w ∈ jw, w.before ([.ref p0.toNat, .int (iI p1)] : List Value).toArray s = true := fun w h => hts w (jm h)
  have hown : s.vm.findClass RX6 = some m.cls := findClass_of_methodNamed B.named
  subst hsz
  have hD := hD0.self (sz := s.heap.size)
  generalize hAe : (va_A (xG L cid K N v) s.heap.size) = A at hD hX ⊢
  have hA : ∀ q : Nat, s.heap.size ≤ q → A q := fun q h => by rw [← hAe]; exact Or.inr h
  have hS : va_S A s.heap s.heap [] := va_S.rf
  have hXa := hX
  have hP : va_P (dC, dI) vwCl (xG L cid K N v) s.heap := hP
  have hl := lv_entry ([.ref p0.toNat, .int (iI p1)]) (n := 2) (Nat.le_of_ble_eq_true rfl)
  rw [lg_entry_eq]
  generalize (lg_sl ([.ref p0.toNat, .int (iI p1)]) ++ List.replicate (2 - (lg_sl ([.ref p0.toNat, .int (iI p1)])).length) Slot.unset).toArray = ls at hl ⊢
  have hl : lv_has ls 2 [(0, .ref p0.toNat), (1, .int (iI p1))] := hl
  generalize hQ : MQ below (va_Qv (fun (u : (Int → Int → Int)) => (xI L K N u) ∧ (fr K [(6, 3), (6, 4), (6, 5)] u v)) (fun u t => va_P (dC, dI) vwCl (xG L cid K N u) t.heap ∧ va_K (dC, dI) vwCl (xT cid) t ∧ va_D A (xG L cid K N u)) A) ([.ref p0.toNat, .int (iI p1)] : List Value).toArray s 0 0 A = Q
  suffices ST : ∀ (H : Heap) (locs : List Loc), va_P (dC, dI) vwCl (xG L cid K N v) H → va_S A s.heap H locs → W p l e ({ frames := 0, cells := 0, slots := 0, locals := 0 }) s m ([.ref p0.toNat, .int (iI p1)] : List Value).toArray below meth c H locs 0 0 Q (F0 m 0 ls []) from ST _ _ hP hS
  clear hP hS
  intro H locs hP hS
  refine lv_iload_n hx hb dX6_turn_0 rfl (lv_at hl 1 rfl) ?_
  refine lv_iconst (v := iI 1) hx hb dX6_turn_1 rfl ?_
  refine xr_icmp_ne (tgt := 13) hx hb dX6_turn_2 (by decide) (by omega) (by omega) (fun h_1 => ?_) (fun h_1 => ?_)
  · refine lv_iload_n hx hb dX6_turn_13 rfl (lv_at hl 1 rfl) ?_
    refine lv_iconst (v := iI 2) hx hb dX6_turn_14 rfl ?_
    refine xr_icmp_ne (tgt := 37) hx hb dX6_turn_15 (by decide) (by omega) (by omega) (fun h_2 => ?_) (fun h_2 => ?_)
    · refine lv_aload_n hx hb dX6_turn_37 rfl (lv_at hl 0 rfl) ?_
      refine lv_aload_n hx hb dX6_turn_38 rfl (lv_at hl 0 rfl) ?_
      have h_3 : 0 ≤ v p0 5 ∧ v p0 5 ≤ 1 := xf_6_5 hI q0
      refine gx_RX6_35 (y := v p0 5) hx hb hj hown hK hP q0 rfl dX6_turn_39 ?_
      refine xr_if_ne (tgt := 49) hx hb dX6_turn_42 (by decide) (by omega) (fun h_4 => ?_) (fun h_4 => ?_)
      · refine lv_iconst (v := iI 0) hx hb dX6_turn_49 rfl ?_
        refine px_RX6_35 (y := 0) hx hb hj hown hK hP hD hS hI q0 ⟨by omega, by omega⟩ dX6_turn_50 (fun v_5 H locs f_6 e_7 o_8 I_9 hP hD hS => ?_)
        rw [← hQ]
        exact W.vret hx hb hr (fun t ht hW => ⟨⟨v_5, rfl, ⟨I_9, (fr_tr f_6 rfl fr_rf)⟩, by rw [ht]; exact hP, va_K.moved hW.alike hK, hD⟩, hS.F ht⟩) hS.2.2 dX6_turn_53
      · refine lv_iconst (v := iI 1) hx hb dX6_turn_45 rfl ?_
        refine lv_goto (tgt := 50) hx hb dX6_turn_46 (by decide) ?_
        refine px_RX6_35 (y := 1) hx hb hj hown hK hP hD hS hI q0 ⟨by omega, by omega⟩ dX6_turn_50 (fun v_10 H locs f_11 e_12 o_13 I_14 hP hD hS => ?_)
        rw [← hQ]
        exact W.vret hx hb hr (fun t ht hW => ⟨⟨v_10, rfl, ⟨I_14, (fr_tr f_11 rfl fr_rf)⟩, by rw [ht]; exact hP, va_K.moved hW.alike hK, hD⟩, hS.F ht⟩) hS.2.2 dX6_turn_53
    · refine lv_aload_n hx hb dX6_turn_18 rfl (lv_at hl 0 rfl) ?_
      refine lv_aload_n hx hb dX6_turn_19 rfl (lv_at hl 0 rfl) ?_
      have h_15 : 0 ≤ v p0 4 ∧ v p0 4 ≤ 1 := xf_6_4 hI q0
      refine gx_RX6_32 (y := v p0 4) hx hb hj hown hK hP q0 rfl dX6_turn_20 ?_
      refine xr_if_ne (tgt := 30) hx hb dX6_turn_23 (by decide) (by omega) (fun h_16 => ?_) (fun h_16 => ?_)
      · refine lv_iconst (v := iI 0) hx hb dX6_turn_30 rfl ?_
        refine px_RX6_32 (y := 0) hx hb hj hown hK hP hD hS hI q0 ⟨by omega, by omega⟩ dX6_turn_31 (fun v_17 H locs f_18 e_19 o_20 I_21 hP hD hS => ?_)
        refine lv_goto (tgt := 53) hx hb dX6_turn_34 (by decide) ?_
        rw [← hQ]
        exact W.vret hx hb hr (fun t ht hW => ⟨⟨v_17, rfl, ⟨I_21, (fr_tr f_18 rfl fr_rf)⟩, by rw [ht]; exact hP, va_K.moved hW.alike hK, hD⟩, hS.F ht⟩) hS.2.2 dX6_turn_53
      · refine lv_iconst (v := iI 1) hx hb dX6_turn_26 rfl ?_
        refine lv_goto (tgt := 31) hx hb dX6_turn_27 (by decide) ?_
        refine px_RX6_32 (y := 1) hx hb hj hown hK hP hD hS hI q0 ⟨by omega, by omega⟩ dX6_turn_31 (fun v_22 H locs f_23 e_24 o_25 I_26 hP hD hS => ?_)
        refine lv_goto (tgt := 53) hx hb dX6_turn_34 (by decide) ?_
        rw [← hQ]
        exact W.vret hx hb hr (fun t ht hW => ⟨⟨v_22, rfl, ⟨I_26, (fr_tr f_23 rfl fr_rf)⟩, by rw [ht]; exact hP, va_K.moved hW.alike hK, hD⟩, hS.F ht⟩) hS.2.2 dX6_turn_53
  · refine lv_aload_n hx hb dX6_turn_5 rfl (lv_at hl 0 rfl) ?_
    refine lv_iconst (v := iI 0) hx hb dX6_turn_6 rfl ?_
    refine px_RX6_20 (y := 0) hx hb hj hown hK hP hD hS hI q0 ⟨by omega, by omega⟩ dX6_turn_7 (fun v_27 H locs f_28 e_29 o_30 I_31 hP hD hS => ?_)
    refine lv_goto (tgt := 53) hx hb dX6_turn_10 (by decide) ?_
    rw [← hQ]
    exact W.vret hx hb hr (fun t ht hW => ⟨⟨v_27, rfl, ⟨I_31, (fr_tr f_28 rfl fr_rf)⟩, by rw [ht]; exact hP, va_K.moved hW.alike hK, hD⟩, hS.F ht⟩) hS.2.2 dX6_turn_53
set_option maxHeartbeats 2000000 in
set_option maxRecDepth 100000 in
theorem sX9_hasWord (l : Launch) (dC : Nat → ClassId) (dI : Nat → Nat → Nat) (sz : Nat) (L : List Nat) (cid : Nat → ClassId) (K : Int → Nat) (N : Int → Int) (tW : Nat) (sK sV : Nat → Nat) (v : Int → Int → Int) (p0 : Int) (p1 : Int) (hI : xI L K N v) (q0 : ok L K p0 9) : Met l yX9_hasWord (jk yX9_hasWord cX9_hasWord 4 (some .boolean)) ({ frames := 0, cells := 0, slots := 0, locals := 0 }) (va_Pc [.ref p0.toNat, .long (lL p1)] (xP (dC, dI) (xG L cid K N v) (xT cid) tW sK sV sz)) (va_Qi (fun (r : Int32) (_ : Unit) => ∃ z : Int, r = iI z ∧ (0 ≤ z ∧ z ≤ 1)) (fun _ _ => True) (va_A [] sz)) 0 0 (va_A [] sz) := by
  refine Met.ofW (cc := cX9_hasWord) (maxL := 4) (ret := (some .boolean)) (by decide) rfl ?_
  intro p e s m args below meth c s₁ B hml hv
  obtain ⟨rfl, ⟨hsz, hP, hK, hD0⟩, hX⟩ := hv
  have hx := B.exec
  have hb := B.bytes
  have hr := B.returns
  have hts := atoms_spec (ws := (jk yX9_hasWord cX9_hasWord 4 (some .boolean))) B.pre
  have hj : ∀ w ∈ jw, w.before ([.ref p0.toNat, .long (lL p1)] : List Value).toArray s = true := fun w h => hts w (jm h)
  have hown : s.vm.findClass RX9 = some m.cls := findClass_of_methodNamed B.named
  subst hsz
  have hDw := hD0.self (sz := s.heap.size)
  have hAA : ∀ q : Nat, s.heap.size ≤ q → va_A (xG L cid K N v) s.heap.size q := fun q h => Or.inr h
  have hAw : ∀ q, va_A [] s.heap.size q → va_A (xG L cid K N v) s.heap.size q := ja_nil va_S.rf hAA
  generalize hAe : (va_A [] s.heap.size) = A at hAw ⊢
  have hA : ∀ q : Nat, s.heap.size ≤ q → A q := fun q h => by rw [← hAe]; exact Or.inr h
  have hS : va_S A s.heap s.heap [] := va_S.rf
  have hXa := hX.nar hAw
  have hP : va_P (dC, dI) vwCl (xG L cid K N v) s.heap := hP
  have hl := lv_entry ([.ref p0.toNat, .long (lL p1)]) (n := 4) (Nat.le_of_ble_eq_true rfl)
  rw [lg_entry_eq]
  generalize (lg_sl ([.ref p0.toNat, .long (lL p1)]) ++ List.replicate (4 - (lg_sl ([.ref p0.toNat, .long (lL p1)])).length) Slot.unset).toArray = ls at hl ⊢
  have hl : lv_has ls 4 [(0, .ref p0.toNat), (1, .long (lL p1))] := hl
  generalize hQ : MQ below (va_Qi (fun (r : Int32) (_ : Unit) => ∃ z : Int, r = iI z ∧ (0 ≤ z ∧ z ≤ 1)) (fun _ _ => True) A) ([.ref p0.toNat, .long (lL p1)] : List Value).toArray s 0 0 A = Q
  suffices ST : ∀ (H : Heap) (locs : List Loc), va_P (dC, dI) vwCl (xG L cid K N v) H → va_S A s.heap H locs → W p l e ({ frames := 0, cells := 0, slots := 0, locals := 0 }) s m ([.ref p0.toNat, .long (lL p1)] : List Value).toArray below meth c H locs 0 0 Q (F0 m 0 ls []) from ST _ _ hP hS
  clear hP hS
  intro H locs hP hS
  refine lv_iconst (v := iI 0) hx hb dX9_hasWord_0 rfl ?_
  refine lv_istore_n (lv' := [(3, .int (iI 0)), (0, .ref p0.toNat), (1, .long (lL p1))]) hx hb dX9_hasWord_1 rfl hl (by decide) rfl (fun ls hl => ?_)
  have L2 : ∀ (n2 : Nat) (a3_2 : Int) (H : Heap) (locs : List Loc) (ls : Array Slot), (0 ≤ a3_2 ∧ a3_2 ≤ 4) → (0 < (n2 : Int) ∧ (N (v p0 3)) - a3_2 < (n2 : Int)) → va_P (dC, dI) vwCl (xG L cid K N v) H → va_S A s.heap H locs → lv_has ls 4 [(3, .int (iI a3_2)), (0, .ref p0.toNat), (1, .long (lL p1))] → W p l e ({ frames := 0, cells := 0, slots := 0, locals := 0 }) s m ([.ref p0.toNat, .long (lL p1)] : List Value).toArray below meth c H locs 0 0 Q (F0 m 2 ls []) := by
    intro n2
    induction n2 with
    | zero =>
      intro a3_2 H locs ls h_1 hm2 hP hS hl
      exfalso; omega
    | succ n2 ih2 =>
      intro a3_2 H locs ls h_2 hm2 hP hS hl
      refine lv_iload_n hx hb dX9_hasWord_2 rfl (lv_at hl 0 rfl) ?_
      refine lv_aload_n hx hb dX9_hasWord_3 rfl (lv_at hl 1 rfl) ?_
      have h_3 : ok L K (v p0 3) 69 := xf_9_3 hI q0
      have h_4 : 0 ≤ N (v p0 3) ∧ N (v p0 3) ≤ 4 := xn_69 hI h_3
      refine gx_RX9_15 (y := v p0 3) hx hb hj hown hK hP q0 ((xf_9_3 hI q0).1) rfl dX9_hasWord_4 ?_
      refine lx_69 (y := N (v p0 3)) hx hb hK hP h_3 rfl (by omega) dX9_hasWord_7 ?_
      refine xr_icmp_ge (tgt := 30) hx hb dX9_hasWord_8 (by decide) (by omega) (by omega) (fun h_5 => ?_) (fun h_5 => ?_)
      · refine lv_iconst (v := iI 0) hx hb dX9_hasWord_30 rfl ?_
        rw [← hQ]
        exact W.zret (v := iI 0) (ty := .boolean) hx hb hr (nb_bool (by omega) (by omega)) (fun t ht hW => ⟨⟨iI 0, (), rfl, ⟨0, rfl, by omega⟩, trivial⟩, hS.F ht⟩) hS.2.2 dX9_hasWord_31
      · refine lv_aload_n hx hb dX9_hasWord_11 rfl (lv_at hl 1 rfl) ?_
        refine gx_RX9_15 (y := v p0 3) hx hb hj hown hK hP q0 ((xf_9_3 hI q0).1) rfl dX9_hasWord_12 ?_
        refine lv_iload_n hx hb dX9_hasWord_15 rfl (lv_at hl 0 rfl) ?_
        refine ax_69 hx hb hK hP h_3 (by omega) (by omega) (by omega) dX9_hasWord_16 ?_
        refine lv_lload_n hx hb dX9_hasWord_17 rfl (lv_at hl 2 rfl) ?_
        refine W.lcmp hx hb dX9_hasWord_18 ?_
        refine xr_any (fun z_6 h_7 => ?_)
        refine xr_if_ne (tgt := 24) hx hb dX9_hasWord_19 (by decide) (by omega) (fun h_8 => ?_) (fun h_8 => ?_)
        · refine lv_iinc (v := iI (a3_2 + 1)) (lv' := [(3, .int (iI (a3_2 + 1))), (0, .ref p0.toNat), (1, .long (lL p1))]) hx hb dX9_hasWord_24 hl (k := 0) rfl (iI_add _ _) (by decide) rfl (fun ls hl => ?_)
          refine lv_goto (tgt := 2) hx hb dX9_hasWord_27 (by decide) ?_
          exact ih2 (a3_2 + 1) H locs ls (by omega) (by omega) hP hS hl
        · refine lv_iconst (v := iI 1) hx hb dX9_hasWord_22 rfl ?_
          rw [← hQ]
          exact W.zret (v := iI 1) (ty := .boolean) hx hb hr (nb_bool (by omega) (by omega)) (fun t ht hW => ⟨⟨iI 1, (), rfl, ⟨1, rfl, by omega⟩, trivial⟩, hS.F ht⟩) hS.2.2 dX9_hasWord_23
  exact L2 ((((N (v p0 3)) - 0 : Int)).toNat + 1) 0 H locs ls (by omega) (by omega) hP hS hl
set_option maxHeartbeats 2000000 in
set_option maxRecDepth 100000 in
theorem sX8_skips (l : Launch) (dC : Nat → ClassId) (dI : Nat → Nat → Nat) (sz : Nat) (L : List Nat) (cid : Nat → ClassId) (K : Int → Nat) (N : Int → Int) (tW : Nat) (sK sV : Nat → Nat) (v : Int → Int → Int) (p0 : Int) (p1 : Int) (p2 : Int) (p3 : Int) (hI : xI L K N v) (q0 : ok L K p0 8) (q2 : rg p2) (q3 : rg p3) : Met l yX8_skips (jk yX8_skips cX8_skips 7 (some .boolean)) ({ frames := 1, cells := 0, slots := 0, locals := 25 }) (va_Pc [.ref p0.toNat, .long (lL p1), .int (iI p2), .int (iI p3)] (xP (dC, dI) (xG L cid K N v) (xT cid) tW sK sV sz)) (va_Qi (fun (r : Int32) (_ : Unit) => ∃ z : Int, r = iI z ∧ (0 ≤ z ∧ z ≤ 1)) (fun _ _ => True) (va_A [] sz)) 0 0 (va_A [] sz) := by
  refine Met.ofW (cc := cX8_skips) (maxL := 7) (ret := (some .boolean)) (by decide) rfl ?_
  intro p e s m args below meth c s₁ B hml hv
  obtain ⟨rfl, ⟨hsz, hP, hK, hD0⟩, hX⟩ := hv
  have hx := B.exec
  have hb := B.bytes
  have hr := B.returns
  have hts := atoms_spec (ws := (jk yX8_skips cX8_skips 7 (some .boolean))) B.pre
  have hj : ∀ w ∈ jw, w.before ([.ref p0.toNat, .long (lL p1), .int (iI p2), .int (iI p3)] : List Value).toArray s = true := fun w h => hts w (jm h)
  have hown : s.vm.findClass RX8 = some m.cls := findClass_of_methodNamed B.named
  subst hsz
  have hDw := hD0.self (sz := s.heap.size)
  have hAA : ∀ q : Nat, s.heap.size ≤ q → va_A (xG L cid K N v) s.heap.size q := fun q h => Or.inr h
  have hAw : ∀ q, va_A [] s.heap.size q → va_A (xG L cid K N v) s.heap.size q := ja_nil va_S.rf hAA
  generalize hAe : (va_A [] s.heap.size) = A at hAw ⊢
  have hA : ∀ q : Nat, s.heap.size ≤ q → A q := fun q h => by rw [← hAe]; exact Or.inr h
  have hS : va_S A s.heap s.heap [] := va_S.rf
  have hXa := hX.nar hAw
  have hP : va_P (dC, dI) vwCl (xG L cid K N v) s.heap := hP
  have hl := lv_entry ([.ref p0.toNat, .long (lL p1), .int (iI p2), .int (iI p3)]) (n := 7) (Nat.le_of_ble_eq_true rfl)
  rw [lg_entry_eq]
  generalize (lg_sl ([.ref p0.toNat, .long (lL p1), .int (iI p2), .int (iI p3)]) ++ List.replicate (7 - (lg_sl ([.ref p0.toNat, .long (lL p1), .int (iI p2), .int (iI p3)])).length) Slot.unset).toArray = ls at hl ⊢
  have hl : lv_has ls 7 [(0, .ref p0.toNat), (1, .long (lL p1)), (3, .int (iI p2)), (4, .int (iI p3))] := hl
  generalize hQ : MQ below (va_Qi (fun (r : Int32) (_ : Unit) => ∃ z : Int, r = iI z ∧ (0 ≤ z ∧ z ≤ 1)) (fun _ _ => True) A) ([.ref p0.toNat, .long (lL p1), .int (iI p2), .int (iI p3)] : List Value).toArray s 0 0 A = Q
  suffices ST : ∀ (H : Heap) (locs : List Loc), va_P (dC, dI) vwCl (xG L cid K N v) H → va_S A s.heap H locs → W p l e ({ frames := 1, cells := 0, slots := 0, locals := 25 }) s m ([.ref p0.toNat, .long (lL p1), .int (iI p2), .int (iI p3)] : List Value).toArray below meth c H locs 0 0 Q (F0 m 0 ls []) from ST _ _ hP hS
  clear hP hS
  intro H locs hP hS
  refine lv_iconst (v := iI 0) hx hb dX8_skips_0 rfl ?_
  refine lv_istore (lv' := [(5, .int (iI 0)), (0, .ref p0.toNat), (1, .long (lL p1)), (3, .int (iI p2)), (4, .int (iI p3))]) hx hb dX8_skips_1 hl (by decide) rfl (fun ls hl => ?_)
  have L3 : ∀ (n3 : Nat) (a5_3 : Int) (H : Heap) (locs : List Loc) (ls : Array Slot), (0 ≤ a5_3 ∧ a5_3 ≤ 2147483647) → (0 < (n3 : Int) ∧ (v p0 5) - a5_3 < (n3 : Int)) → va_P (dC, dI) vwCl (xG L cid K N v) H → va_S A s.heap H locs → lv_has ls 7 [(5, .int (iI a5_3)), (0, .ref p0.toNat), (1, .long (lL p1)), (3, .int (iI p2)), (4, .int (iI p3))] → W p l e ({ frames := 1, cells := 0, slots := 0, locals := 25 }) s m ([.ref p0.toNat, .long (lL p1), .int (iI p2), .int (iI p3)] : List Value).toArray below meth c H locs 0 0 Q (F0 m 3 ls []) := by
    intro n3
    induction n3 with
    | zero =>
      intro a5_3 H locs ls h_1 hm3 hP hS hl
      exfalso; omega
    | succ n3 ih3 =>
      intro a5_3 H locs ls h_2 hm3 hP hS hl
      refine lv_iload hx hb dX8_skips_3 (lv_at hl 0 rfl) ?_
      refine lv_aload_n hx hb dX8_skips_5 rfl (lv_at hl 1 rfl) ?_
      have h_3 : 0 ≤ v p0 5 ∧ v p0 5 ≤ 20 := xf_8_5 hI q0
      refine gx_RX8_37 (y := v p0 5) hx hb hj hown hK hP q0 rfl dX8_skips_6 ?_
      refine xr_icmp_ge (tgt := 45) hx hb dX8_skips_9 (by decide) (by omega) (by omega) (fun h_4 => ?_) (fun h_4 => ?_)
      · refine lv_iconst (v := iI 0) hx hb dX8_skips_45 rfl ?_
        rw [← hQ]
        exact W.zret (v := iI 0) (ty := .boolean) hx hb hr (nb_bool (by omega) (by omega)) (fun t ht hW => ⟨⟨iI 0, (), rfl, ⟨0, rfl, by omega⟩, trivial⟩, hS.F ht⟩) hS.2.2 dX8_skips_46
      · refine lv_aload_n hx hb dX8_skips_12 rfl (lv_at hl 1 rfl) ?_
        refine lv_iload hx hb dX8_skips_13 (lv_at hl 0 rfl) ?_
        refine lv_iload_n hx hb dX8_skips_15 rfl (lv_at hl 3 rfl) ?_
        refine lv_iload hx hb dX8_skips_16 (lv_at hl 4 rfl) ?_
        refine jc_q (va_runV (As := [.int (iI a5_3), .int (iI p2), .int (iI p3)]) (rest := []) ⟨hx, hb, hml, hown, hts⟩ (sX8_sheetOfPut l dC dI _ L cid K N tW sK sV v p0 a5_3 p2 p3 hI q0 (by omega) (by omega) (by omega)) (cwV 3 hts (jgoodV m_924 m_925 m_926 m_927 m_928) rfl rfl rfl (by decide +kernel) ⟨(Nat.le_of_ble_eq_true rfl), (Nat.le_of_ble_eq_true rfl)⟩) ⟨xP_blind, xrecv hK hP q0 rfl rfl, fun U hU hW => ⟨rfl, xP_of hU hW hP hK hDw hX hS hAw hAA⟩⟩ rfl rfl hl.1 rfl (lv_room (Nat.le_of_ble_eq_true rfl)) dX8_skips_18 ⟨(Nat.le_of_ble_eq_true rfl), (Nat.le_of_ble_eq_true rfl)⟩) hP hS hA (fun r_5 H locs w_6 hP hS => ?_)
        obtain ⟨z_7, rfl, h_8⟩ := w_6
        refine jt_q (rv z_7) rfl ?_
        refine xq_astore (lv' := [(6, rv z_7), (5, .int (iI a5_3)), (0, .ref p0.toNat), (1, .long (lL p1)), (3, .int (iI p2)), (4, .int (iI p3))]) hx hb dX8_skips_21 hl (by decide) rfl (fun ls hl => ?_)
        refine xq_aload hx hb dX8_skips_23 (lv_at hl 0 rfl) ?_
        have J39 : ∀ (H : Heap) (locs : List Loc) (ls : Array Slot), va_P (dC, dI) vwCl (xG L cid K N v) H → va_S A s.heap H locs → lv_has ls 7 [(6, rv z_7), (5, .int (iI a5_3)), (0, .ref p0.toNat), (1, .long (lL p1)), (3, .int (iI p2)), (4, .int (iI p3))] → W p l e ({ frames := 1, cells := 0, slots := 0, locals := 25 }) s m ([.ref p0.toNat, .long (lL p1), .int (iI p2), .int (iI p3)] : List Value).toArray below meth c H locs 0 0 Q (F0 m 39 ls []) := by
          intro H locs ls hP hS hl
          refine lv_iinc (v := iI (a5_3 + 1)) (lv' := [(5, .int (iI (a5_3 + 1))), (6, rv z_7), (0, .ref p0.toNat), (1, .long (lL p1)), (3, .int (iI p2)), (4, .int (iI p3))]) hx hb dX8_skips_39 hl (k := 1) rfl (iI_add _ _) (by decide) rfl (fun ls hl => ?_)
          refine lv_goto (tgt := 3) hx hb dX8_skips_42 (by decide) ?_
          exact ih3 (a5_3 + 1) H locs ls (by omega) (by omega) hP hS (lv_sub hl [0, 2, 3, 4, 5] rfl)
        refine xq_ifnull (tgt := 39) hx hb dX8_skips_25 (by decide) (fun h_9 => ?_) (fun h_9 => ?_)
        · exact J39 H locs ls hP hS hl
        · have h_10 : ok L K z_7 9 := h_8.resolve_left (by omega)
          refine xq_aload hx hb dX8_skips_28 (lv_at hl 0 rfl) ?_
          refine jt_q (.ref z_7.toNat) (rv_ref (h_10).1) ?_
          refine lv_lload_n hx hb dX8_skips_30 rfl (lv_at hl 3 rfl) ?_
          refine jc_i (va_runV (As := [.long (lL p1)]) (rest := []) ⟨hx, hb, hml, hown, hts⟩ (sX9_hasWord l dC dI _ L cid K N tW sK sV v z_7 (lL p1) hI h_10) (cwV 1 hts (jgoodV m_958 m_959 m_960 m_932 m_961) rfl rfl rfl (by decide +kernel) ⟨(Nat.le_of_ble_eq_true rfl), (Nat.le_of_ble_eq_true rfl)⟩) ⟨xP_blind, xrecv hK hP h_10 rfl rfl, fun U hU hW => ⟨rfl, xP_of hU hW hP hK hDw hX hS hAw hAA⟩⟩ rfl rfl hl.1 rfl (lv_room (Nat.le_of_ble_eq_true rfl)) dX8_skips_31 ⟨(Nat.le_of_ble_eq_true rfl), (Nat.le_of_ble_eq_true rfl)⟩) hP hS hA (fun r_11 H locs w_12 hP hS => ?_)
          obtain ⟨z_13, rfl, h_14⟩ := w_12
          refine xr_if_eq (tgt := 39) hx hb dX8_skips_34 (by decide) (by omega) (fun h_15 => ?_) (fun h_15 => ?_)
          · exact J39 H locs ls hP hS hl
          · refine lv_iconst (v := iI 1) hx hb dX8_skips_37 rfl ?_
            rw [← hQ]
            exact W.zret (v := iI 1) (ty := .boolean) hx hb hr (nb_bool (by omega) (by omega)) (fun t ht hW => ⟨⟨iI 1, (), rfl, ⟨1, rfl, by omega⟩, trivial⟩, hS.F ht⟩) hS.2.2 dX8_skips_38
  exact L3 ((((v p0 5) - 0 : Int)).toNat + 1) 0 H locs ls (by omega) (by omega) hP hS hl
set_option maxHeartbeats 2000000 in
set_option maxRecDepth 100000 in
theorem sX6_prepare (l : Launch) (dC : Nat → ClassId) (dI : Nat → Nat → Nat) (sz : Nat) (L : List Nat) (cid : Nat → ClassId) (K : Int → Nat) (N : Int → Int) (tW : Nat) (sK sV : Nat → Nat) (v : Int → Int → Int) (p0 : Int) (p1 : Int) (hI : xI L K N v) (q0 : ok L K p0 6) (q1 : ok L K p1 0) : Met l yX6_prepare (jk yX6_prepare cX6_prepare 3 none) ({ frames := 2, cells := 0, slots := 0, locals := 51 }) (va_Pc [.ref p0.toNat, .ref p1.toNat] (xP (dC, dI) (xG L cid K N v) (xT cid) tW sK sV sz)) (va_Qv (fun (u : (Int → Int → Int)) => (xI L K N u) ∧ (fr K [(0, 5)] u v)) (fun u t => va_P (dC, dI) vwCl (xG L cid K N u) t.heap ∧ va_K (dC, dI) vwCl (xT cid) t ∧ va_D (va_A (xG L cid K N v) sz) (xG L cid K N u)) (va_A (xG L cid K N v) sz)) 0 0 (va_A (xG L cid K N v) sz) := by
  refine Met.ofW (cc := cX6_prepare) (maxL := 3) (ret := none) (by decide) rfl ?_
  intro p e s m args below meth c s₁ B hml hv
  obtain ⟨rfl, ⟨hsz, hP, hK, hD0⟩, hX⟩ := hv
  have hx := B.exec
  have hb := B.bytes
  have hr := B.returns
  have hts := atoms_spec (ws := (jk yX6_prepare cX6_prepare 3 none)) B.pre
  have hj : ∀ w ∈ jw, w.before ([.ref p0.toNat, .ref p1.toNat] : List Value).toArray s = true := fun w h => hts w (jm h)
  have hown : s.vm.findClass RX6 = some m.cls := findClass_of_methodNamed B.named
  subst hsz
  have hD := hD0.self (sz := s.heap.size)
  generalize hAe : (va_A (xG L cid K N v) s.heap.size) = A at hD hX ⊢
  have hA : ∀ q : Nat, s.heap.size ≤ q → A q := fun q h => by rw [← hAe]; exact Or.inr h
  have hS : va_S A s.heap s.heap [] := va_S.rf
  have hXa := hX
  have hP : va_P (dC, dI) vwCl (xG L cid K N v) s.heap := hP
  have hl := lv_entry ([.ref p0.toNat, .ref p1.toNat]) (n := 3) (Nat.le_of_ble_eq_true rfl)
  rw [lg_entry_eq]
  generalize (lg_sl ([.ref p0.toNat, .ref p1.toNat]) ++ List.replicate (3 - (lg_sl ([.ref p0.toNat, .ref p1.toNat])).length) Slot.unset).toArray = ls at hl ⊢
  have hl : lv_has ls 3 [(0, .ref p0.toNat), (1, .ref p1.toNat)] := hl
  generalize hQ : MQ below (va_Qv (fun (u : (Int → Int → Int)) => (xI L K N u) ∧ (fr K [(0, 5)] u v)) (fun u t => va_P (dC, dI) vwCl (xG L cid K N u) t.heap ∧ va_K (dC, dI) vwCl (xT cid) t ∧ va_D A (xG L cid K N u)) A) ([.ref p0.toNat, .ref p1.toNat] : List Value).toArray s 0 0 A = Q
  suffices ST : ∀ (H : Heap) (locs : List Loc), va_P (dC, dI) vwCl (xG L cid K N v) H → va_S A s.heap H locs → W p l e ({ frames := 2, cells := 0, slots := 0, locals := 51 }) s m ([.ref p0.toNat, .ref p1.toNat] : List Value).toArray below meth c H locs 0 0 Q (F0 m 0 ls []) from ST _ _ hP hS
  clear hP hS
  intro H locs hP hS
  refine lv_aload_n hx hb dX6_prepare_0 rfl (lv_at hl 0 rfl) ?_
  have h_1 : 0 ≤ v p0 3 ∧ v p0 3 ≤ 1 := xf_6_3 hI q0
  refine gx_RX6_20 (y := v p0 3) hx hb hj hown hK hP q0 rfl dX6_prepare_1 ?_
  have J41 : ∀ (s0_41 : Int) (H : Heap) (locs : List Loc) (ls : Array Slot), (0 ≤ s0_41 ∧ s0_41 ≤ 1) → va_P (dC, dI) vwCl (xG L cid K N v) H → va_D A (xG L cid K N v) → va_S A s.heap H locs → lv_has ls 3 [(0, .ref p0.toNat), (1, .ref p1.toNat)] → W p l e ({ frames := 2, cells := 0, slots := 0, locals := 51 }) s m ([.ref p0.toNat, .ref p1.toNat] : List Value).toArray below meth c H locs 0 0 Q (F0 m 41 ls [.int (iI s0_41)]) := by
    intro s0_41 H locs ls h_2 hP hD hS hl
    refine lv_istore_n (lv' := [(2, .int (iI s0_41)), (0, .ref p0.toNat), (1, .ref p1.toNat)]) hx hb dX6_prepare_41 rfl hl (by decide) rfl (fun ls hl => ?_)
    refine lv_aload_n hx hb dX6_prepare_42 rfl (lv_at hl 2 rfl) ?_
    refine lv_iload_n hx hb dX6_prepare_43 rfl (lv_at hl 0 rfl) ?_
    refine xr_if_eq (tgt := 54) hx hb dX6_prepare_44 (by decide) (by omega) (fun h_3 => ?_) (fun h_3 => ?_)
    · refine lv_iconst (v := iI 0) hx hb dX6_prepare_54 rfl ?_
      refine px_RX6_50 (y := 0) hx hb hj hown hK hP hD hS hI q1 ⟨by omega, by omega⟩ dX6_prepare_55 (fun v_4 H locs f_5 e_6 o_7 I_8 hP hD hS => ?_)
      rw [← hQ]
      exact W.vret hx hb hr (fun t ht hW => ⟨⟨v_4, rfl, ⟨I_8, (fr_tr f_5 rfl fr_rf)⟩, by rw [ht]; exact hP, va_K.moved hW.alike hK, hD⟩, hS.F ht⟩) hS.2.2 dX6_prepare_58
    · refine lv_aload_n hx hb dX6_prepare_47 rfl (lv_at hl 2 rfl) ?_
      have h_9 : (-2147483648) ≤ v p1 4 ∧ v p1 4 ≤ 2147483647 := xf_0_4 hI q1
      refine gx_RX6_38 (y := v p1 4) hx hb hj hown hK hP q1 rfl dX6_prepare_48 ?_
      refine lv_goto (tgt := 55) hx hb dX6_prepare_51 (by decide) ?_
      refine px_RX6_50 (y := v p1 4) hx hb hj hown hK hP hD hS hI q1 ⟨by omega, by omega⟩ dX6_prepare_55 (fun v_10 H locs f_11 e_12 o_13 I_14 hP hD hS => ?_)
      rw [← hQ]
      exact W.vret hx hb hr (fun t ht hW => ⟨⟨v_10, rfl, ⟨I_14, (fr_tr f_11 rfl fr_rf)⟩, by rw [ht]; exact hP, va_K.moved hW.alike hK, hD⟩, hS.F ht⟩) hS.2.2 dX6_prepare_58
  have J40 : ∀ (H : Heap) (locs : List Loc) (ls : Array Slot), va_P (dC, dI) vwCl (xG L cid K N v) H → va_D A (xG L cid K N v) → va_S A s.heap H locs → lv_has ls 3 [(0, .ref p0.toNat), (1, .ref p1.toNat)] → W p l e ({ frames := 2, cells := 0, slots := 0, locals := 51 }) s m ([.ref p0.toNat, .ref p1.toNat] : List Value).toArray below meth c H locs 0 0 Q (F0 m 40 ls []) := by
    intro H locs ls hP hD hS hl
    refine lv_iconst (v := iI 0) hx hb dX6_prepare_40 rfl ?_
    exact J41 0 H locs ls (by omega) hP hD hS hl
  refine xr_if_eq (tgt := 40) hx hb dX6_prepare_4 (by decide) (by omega) (fun h_15 => ?_) (fun h_15 => ?_)
  · exact J40 H locs ls hP hD hS hl
  · refine lv_aload_n hx hb dX6_prepare_7 rfl (lv_at hl 1 rfl) ?_
    have h_16 : (-2147483648) ≤ v p1 4 ∧ v p1 4 ≤ 2147483647 := xf_0_4 hI q1
    refine gx_RX6_38 (y := v p1 4) hx hb hj hown hK hP q1 rfl dX6_prepare_8 ?_
    refine xr_if_le (tgt := 40) hx hb dX6_prepare_11 (by decide) (by omega) (fun h_17 => ?_) (fun h_17 => ?_)
    · exact J40 H locs ls hP hD hS hl
    · refine lv_aload_n hx hb dX6_prepare_14 rfl (lv_at hl 0 rfl) ?_
      have h_18 : ok L K (v p0 0) 8 := xf_6_0 hI q0
      refine gx_RX6_7 (y := v p0 0) hx hb hj hown hK hP q0 ((xf_6_0 hI q0).1) rfl dX6_prepare_15 ?_
      refine lv_aload_n hx hb dX6_prepare_18 rfl (lv_at hl 1 rfl) ?_
      refine gx_RX6_43 (y := v p1 3) hx hb hj hown hK hP q1 rfl dX6_prepare_19 ?_
      refine lv_aload_n hx hb dX6_prepare_22 rfl (lv_at hl 0 rfl) ?_
      have h_19 : (-2147483648) ≤ v p0 1 ∧ v p0 1 ≤ 2147483647 := xf_6_1 hI q0
      refine gx_RX6_13 (y := v p0 1) hx hb hj hown hK hP q0 rfl dX6_prepare_23 ?_
      refine lv_aload_n hx hb dX6_prepare_26 rfl (lv_at hl 0 rfl) ?_
      have h_20 : (-2147483648) ≤ v p0 2 ∧ v p0 2 ≤ 2147483647 := xf_6_2 hI q0
      refine gx_RX6_17 (y := v p0 2) hx hb hj hown hK hP q0 rfl dX6_prepare_27 ?_
      refine jc_i (va_runV (As := [.long (lL (v p1 3)), .int (iI (v p0 1)), .int (iI (v p0 2))]) (rest := []) ⟨hx, hb, hml, hown, hts⟩ (sX8_skips l dC dI _ L cid K N tW sK sV v (v p0 0) (lL (v p1 3)) (v p0 1) (v p0 2) hI h_18 (by omega) (by omega)) (cwV 3 hts (jgoodV m_962 m_963 m_964 m_927 m_965) rfl rfl rfl (by decide +kernel) ⟨(Nat.le_of_ble_eq_true rfl), (Nat.le_of_ble_eq_true rfl)⟩) ⟨xP_blind, xrecv hK hP h_18 rfl rfl, fun U hU hW => ⟨rfl, xP_of hU hW hP hK hD hX hS (fun _ h => h) hA⟩⟩ rfl rfl hl.1 rfl (lv_room (Nat.le_of_ble_eq_true rfl)) dX6_prepare_30 ⟨(Nat.le_of_ble_eq_true rfl), (Nat.le_of_ble_eq_true rfl)⟩) hP hS hA (fun r_21 H locs w_22 hP hS => ?_)
      obtain ⟨z_23, rfl, h_24⟩ := w_22
      refine xr_if_eq (tgt := 40) hx hb dX6_prepare_33 (by decide) (by omega) (fun h_25 => ?_) (fun h_25 => ?_)
      · exact J40 H locs ls hP hD hS hl
      · refine lv_iconst (v := iI 1) hx hb dX6_prepare_36 rfl ?_
        refine lv_goto (tgt := 41) hx hb dX6_prepare_37 (by decide) ?_
        exact J41 1 H locs ls (by omega) hP hD hS hl
