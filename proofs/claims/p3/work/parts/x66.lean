set_option maxHeartbeats 2000000 in
set_option maxRecDepth 100000 in
theorem sX12_line (l : Launch) (dC : Nat → ClassId) (dI : Nat → Nat → Nat) (sz : Nat) (L : List Nat) (cid : Nat → ClassId) (K : Int → Nat) (N : Int → Int) (tW : Nat) (sK sV : Nat → Nat) (v : Int → Int → Int) (p0 : Int) (p1 : Int) (p2 : Int) (p3 : Int) (hI : xI L K N v) (q0 : ok L K p0 12) (q1 : rg p1) (q2 : rg p2) (q3 : rg p3) : Met l yX12_line (jk yX12_line cX12_line 7 (some .int)) ({ frames := 5, cells := 1, slots := 9, locals := 139 }) (va_Pc [.ref p0.toNat, .int (iI p1), .int (iI p2), .int (iI p3)] (xP (dC, dI) (xG L cid K N v) (xT cid) tW sK sV sz)) (va_Qi (fun (r : Int32) (u : (List Nat × (Int → Nat) × (Int → Int) × (Int → Int → Int))) => ∃ z : Int, r = iI z ∧ (xI u.1 u.2.1 u.2.2.1 u.2.2.2) ∧ (xE L K N u.1 u.2.1 u.2.2.1) ∧ (frE L K [(0, 15), (0, 16), (0, 17), (2, 5), (4, 3), (4, 4), (4, 5), (4, 6), (4, 8), (12, 13), (33, (-1)), (34, (-1)), (39, (-1)), (99, 0)] u.2.2.2 v) ∧ (rg z)) (fun u t => va_P (dC, dI) vwCl (xG u.1 cid u.2.1 u.2.2.1 u.2.2.2) t.heap ∧ va_K (dC, dI) vwCl (xT cid) t ∧ va_D (va_A (xG L cid K N v) sz) (xG u.1 cid u.2.1 u.2.2.1 u.2.2.2)) (va_A (xG L cid K N v) sz)) 1 9 (va_A (xG L cid K N v) sz) := by
  refine Met.ofW (cc := cX12_line) (maxL := 7) (ret := (some .int)) (by decide) rfl ?_
  intro p e s m args below meth c s₁ B hml hv
  obtain ⟨rfl, ⟨hsz, hP, hK, hD0⟩, hX⟩ := hv
  have hx := B.exec
  have hb := B.bytes
  have hr := B.returns
  have hts := atoms_spec (ws := (jk yX12_line cX12_line 7 (some .int))) B.pre
  have hj : ∀ w ∈ jw, w.before ([.ref p0.toNat, .int (iI p1), .int (iI p2), .int (iI p3)] : List Value).toArray s = true := fun w h => hts w (jm h)
  have hown : s.vm.findClass RX12 = some m.cls := findClass_of_methodNamed B.named
  subst hsz
  have hD := hD0.self (sz := s.heap.size)
  generalize hAe : (va_A (xG L cid K N v) s.heap.size) = A at hD hX ⊢
  have hA : ∀ q : Nat, s.heap.size ≤ q → A q := fun q h => by rw [← hAe]; exact Or.inr h
  have hS : va_S A s.heap s.heap [] := va_S.rf
  have hE0 : xE L K N L K N := xE_rf
  have hF0 : frE L K [(0, 15), (0, 16), (0, 17), (2, 5), (4, 3), (4, 4), (4, 5), (4, 6), (4, 8), (12, 13), (33, (-1)), (34, (-1)), (39, (-1)), (99, 0)] v v := frE_rf
  have hXa := hX
  have hP : va_P (dC, dI) vwCl (xG L cid K N v) s.heap := hP
  have hl := lv_entry ([.ref p0.toNat, .int (iI p1), .int (iI p2), .int (iI p3)]) (n := 7) (Nat.le_of_ble_eq_true rfl)
  rw [lg_entry_eq]
  generalize (lg_sl ([.ref p0.toNat, .int (iI p1), .int (iI p2), .int (iI p3)]) ++ List.replicate (7 - (lg_sl ([.ref p0.toNat, .int (iI p1), .int (iI p2), .int (iI p3)])).length) Slot.unset).toArray = ls at hl ⊢
  have hl : lv_has ls 7 [(0, .ref p0.toNat), (1, .int (iI p1)), (2, .int (iI p2)), (3, .int (iI p3))] := hl
  generalize hQ : MQ below (va_Qi (fun (r : Int32) (u : (List Nat × (Int → Nat) × (Int → Int) × (Int → Int → Int))) => ∃ z : Int, r = iI z ∧ (xI u.1 u.2.1 u.2.2.1 u.2.2.2) ∧ (xE L K N u.1 u.2.1 u.2.2.1) ∧ (frE L K [(0, 15), (0, 16), (0, 17), (2, 5), (4, 3), (4, 4), (4, 5), (4, 6), (4, 8), (12, 13), (33, (-1)), (34, (-1)), (39, (-1)), (99, 0)] u.2.2.2 v) ∧ (rg z)) (fun u t => va_P (dC, dI) vwCl (xG u.1 cid u.2.1 u.2.2.1 u.2.2.2) t.heap ∧ va_K (dC, dI) vwCl (xT cid) t ∧ va_D A (xG u.1 cid u.2.1 u.2.2.1 u.2.2.2)) A) ([.ref p0.toNat, .int (iI p1), .int (iI p2), .int (iI p3)] : List Value).toArray s 1 9 A = Q
  suffices ST : ∀ (H : Heap) (locs : List Loc), va_P (dC, dI) vwCl (xG L cid K N v) H → va_S A s.heap H locs → W p l e ({ frames := 5, cells := 1, slots := 9, locals := 139 }) s m ([.ref p0.toNat, .int (iI p1), .int (iI p2), .int (iI p3)] : List Value).toArray below meth c H locs 0 0 Q (F0 m 0 ls []) from ST _ _ hP hS
  clear hP hS
  intro H locs hP hS
  refine lv_aload_n hx hb dX12_line_0 rfl (lv_at hl 0 rfl) ?_
  refine lv_iload_n hx hb dX12_line_1 rfl (lv_at hl 1 rfl) ?_
  refine lv_iconst (v := iI 0) hx hb dX12_line_2 rfl ?_
  refine jc_q (va_runV (As := [.int (iI p1), .int (iI 0)]) (rest := []) ⟨hx, hb, hml, hown, hts⟩ (sX12_entryOfKind l dC dI _ L cid K N tW sK sV v p0 p1 0 hI q0 (by omega) (by omega)) (cwV 2 hts (jgoodV m_1027 m_1028 m_1029 m_873 m_1030) rfl rfl rfl (by decide +kernel) ⟨(Nat.le_of_ble_eq_true rfl), (Nat.le_of_ble_eq_true rfl)⟩) ⟨xP_blind, xrecv hK hP q0 rfl rfl, fun U hU hW => ⟨rfl, xP_of hU hW hP hK hD hX hS (fun _ h => h) hA⟩⟩ rfl rfl hl.1 rfl (lv_room (Nat.le_of_ble_eq_true rfl)) dX12_line_3 ⟨(Nat.le_of_ble_eq_true rfl), (Nat.le_of_ble_eq_true rfl)⟩) hP hS hA (fun r_1 H locs w_2 hP hS => ?_)
  obtain ⟨z_3, rfl, h_4⟩ := w_2
  refine jt_q (rv z_3) rfl ?_
  refine xq_astore (i := 4) (lv' := [(4, rv z_3), (0, .ref p0.toNat), (1, .int (iI p1)), (2, .int (iI p2)), (3, .int (iI p3))]) hx hb dX12_line_6 hl (by decide) rfl (fun ls hl => ?_)
  refine xq_aload hx hb dX12_line_8 (lv_at hl 0 rfl) ?_
  refine xq_ifnull (tgt := 39) hx hb dX12_line_10 (by decide) (fun h_5 => ?_) (fun h_5 => ?_)
  · refine lv_iconst (v := iI (-1)) hx hb dX12_line_39 rfl ?_
    refine W.widen (k := 1) (n := 9) (Nat.le_of_ble_eq_true rfl) (Nat.le_of_ble_eq_true rfl) ?_
    rw [← hQ]
    exact W.iret (v := iI (-1)) hx hb hr (fun t ht hW => ⟨⟨iI (-1), (L, K, N, v), rfl, ⟨(-1), rfl, hI, hE0, hF0, by omega⟩, by rw [ht]; exact hP, va_K.moved hW.alike hK, hD⟩, hS.F ht⟩) hS.2.2 dX12_line_40
  · have h_6 : ok L K z_3 0 := h_4.resolve_left (by omega)
    refine xq_aload hx hb dX12_line_13 (lv_at hl 0 rfl) ?_
    refine jt_q (.ref z_3.toNat) (rv_ref (h_6).1) ?_
    refine jc_i (va_runV (As := []) (rest := []) ⟨hx, hb, hml, hown, hts⟩ (sX0_isDone l dC dI _ L cid K N tW sK sV v z_3 hI h_6) (cwV 0 hts (jgoodV m_1097 m_1098 m_1099 m_666 m_1100) rfl rfl rfl (by decide +kernel) ⟨(Nat.le_of_ble_eq_true rfl), (Nat.le_of_ble_eq_true rfl)⟩) ⟨xP_blind, xrecv hK hP h_6 rfl rfl, fun U hU hW => ⟨rfl, xP_of hU hW hP hK hD hX hS (fun _ h => h) hA⟩⟩ rfl rfl hl.1 rfl (lv_room (Nat.le_of_ble_eq_true rfl)) dX12_line_15 ⟨(Nat.le_of_ble_eq_true rfl), (Nat.le_of_ble_eq_true rfl)⟩) hP hS hA (fun r_7 H locs w_8 hP hS => ?_)
    obtain ⟨z_9, rfl, h_10, h_11⟩ := w_8
    have h_12 : 0 ≤ v z_3 15 ∧ v z_3 15 ≤ 200 := xf_0_15 hI h_6
    have h_13 : 0 ≤ v z_3 9 ∧ v z_3 9 ≤ 200 := xf_0_9 hI h_6
    refine xr_if_ne (tgt := 39) hx hb dX12_line_18 (by decide) (by omega) (fun h_14 => ?_) (fun h_14 => ?_)
    · refine lv_iconst (v := iI (-1)) hx hb dX12_line_39 rfl ?_
      refine W.widen (k := 1) (n := 9) (Nat.le_of_ble_eq_true rfl) (Nat.le_of_ble_eq_true rfl) ?_
      rw [← hQ]
      exact W.iret (v := iI (-1)) hx hb hr (fun t ht hW => ⟨⟨iI (-1), (L, K, N, v), rfl, ⟨(-1), rfl, hI, hE0, hF0, by omega⟩, by rw [ht]; exact hP, va_K.moved hW.alike hK, hD⟩, hS.F ht⟩) hS.2.2 dX12_line_40
    · refine lv_aload_n hx hb dX12_line_21 rfl (lv_at hl 1 rfl) ?_
      refine xq_aload hx hb dX12_line_22 (lv_at hl 0 rfl) ?_
      refine jt_q (.ref z_3.toNat) (rv_ref (h_6).1) ?_
      refine jc_i (va_runV (As := [.ref z_3.toNat]) (rest := []) ⟨hx, hb, hml, hown, hts⟩ (sX12_isStruck l dC dI _ L cid K N tW sK sV v p0 z_3 hI q0 h_6) (cwV 1 hts (jgoodV m_1060 m_1061 m_1062 m_873 m_1063) rfl rfl rfl (by decide +kernel) ⟨(Nat.le_of_ble_eq_true rfl), (Nat.le_of_ble_eq_true rfl)⟩) ⟨xP_blind, xrecv hK hP q0 rfl rfl, fun U hU hW => ⟨rfl, xP_of hU hW hP hK hD hX hS (fun _ h => h) hA⟩⟩ rfl rfl hl.1 rfl (lv_room (Nat.le_of_ble_eq_true rfl)) dX12_line_24 ⟨(Nat.le_of_ble_eq_true rfl), (Nat.le_of_ble_eq_true rfl)⟩) hP hS hA (fun r_15 H locs w_16 hP hS => ?_)
      obtain ⟨z_17, rfl, h_18⟩ := w_16
      refine xr_if_ne (tgt := 39) hx hb dX12_line_27 (by decide) (by omega) (fun h_19 => ?_) (fun h_19 => ?_)
      · refine lv_iconst (v := iI (-1)) hx hb dX12_line_39 rfl ?_
        refine W.widen (k := 1) (n := 9) (Nat.le_of_ble_eq_true rfl) (Nat.le_of_ble_eq_true rfl) ?_
        rw [← hQ]
        exact W.iret (v := iI (-1)) hx hb hr (fun t ht hW => ⟨⟨iI (-1), (L, K, N, v), rfl, ⟨(-1), rfl, hI, hE0, hF0, by omega⟩, by rw [ht]; exact hP, va_K.moved hW.alike hK, hD⟩, hS.F ht⟩) hS.2.2 dX12_line_40
      · refine lv_aload_n hx hb dX12_line_30 rfl (lv_at hl 1 rfl) ?_
        refine xq_aload hx hb dX12_line_31 (lv_at hl 0 rfl) ?_
        refine jt_q (.ref z_3.toNat) (rv_ref (h_6).1) ?_
        refine jc_i (va_runV (As := [.ref z_3.toNat]) (rest := []) ⟨hx, hb, hml, hown, hts⟩ (sX12_isLater l dC dI _ L cid K N tW sK sV v p0 z_3 hI q0 h_6) (cwV 1 hts (jgoodV m_1031 m_1032 m_1033 m_873 m_1034) rfl rfl rfl (by decide +kernel) ⟨(Nat.le_of_ble_eq_true rfl), (Nat.le_of_ble_eq_true rfl)⟩) ⟨xP_blind, xrecv hK hP q0 rfl rfl, fun U hU hW => ⟨rfl, xP_of hU hW hP hK hD hX hS (fun _ h => h) hA⟩⟩ rfl rfl hl.1 rfl (lv_room (Nat.le_of_ble_eq_true rfl)) dX12_line_33 ⟨(Nat.le_of_ble_eq_true rfl), (Nat.le_of_ble_eq_true rfl)⟩) hP hS hA (fun r_20 H locs w_21 hP hS => ?_)
        obtain ⟨z_22, rfl, h_23⟩ := w_21
        refine xr_if_eq (tgt := 41) hx hb dX12_line_36 (by decide) (by omega) (fun h_24 => ?_) (fun h_24 => ?_)
        · refine lv_aload_n hx hb dX12_line_41 rfl (lv_at hl 1 rfl) ?_
          refine xq_aload hx hb dX12_line_42 (lv_at hl 0 rfl) ?_
          refine jt_q (.ref z_3.toNat) (rv_ref (h_6).1) ?_
          have h_25 : (-2147483648) ≤ v z_3 14 ∧ v z_3 14 ≤ 2147483647 := xf_0_14 hI h_6
          refine gx_RX12_313 (y := v z_3 14) hx hb hj hown hK hP h_6 rfl dX12_line_44 ?_
          refine jc_q (va_runV (As := [.int (iI (v z_3 14))]) (rest := []) ⟨hx, hb, hml, hown, hts⟩ (sX12_livingHandAt l dC dI _ L cid K N tW sK sV v p0 (v z_3 14) hI q0 (by omega)) (cwV 1 hts (jgoodV m_1089 m_1090 m_1091 m_873 m_1092) rfl rfl rfl (by decide +kernel) ⟨(Nat.le_of_ble_eq_true rfl), (Nat.le_of_ble_eq_true rfl)⟩) ⟨xP_blind, xrecv hK hP q0 rfl rfl, fun U hU hW => ⟨rfl, xP_of hU hW hP hK hD hX hS (fun _ h => h) hA⟩⟩ rfl rfl hl.1 rfl (lv_room (Nat.le_of_ble_eq_true rfl)) dX12_line_47 ⟨(Nat.le_of_ble_eq_true rfl), (Nat.le_of_ble_eq_true rfl)⟩) hP hS hA (fun r_26 H locs w_27 hP hS => ?_)
          obtain ⟨z_28, rfl, h_29⟩ := w_27
          refine jt_q (rv z_28) rfl ?_
          refine xq_astore (i := 5) (lv' := [(5, rv z_28), (4, rv z_3), (0, .ref p0.toNat), (1, .int (iI p1)), (2, .int (iI p2)), (3, .int (iI p3))]) hx hb dX12_line_50 hl (by decide) (by simp [rv_cat]) (fun ls hl => ?_)
          refine xq_aload hx hb dX12_line_52 (lv_at hl 0 rfl) ?_
          refine xq_ifnull (tgt := 85) hx hb dX12_line_54 (by decide) (fun h_30 => ?_) (fun h_30 => ?_)
          · refine lv_iconst (v := iI (-1)) hx hb dX12_line_85 rfl ?_
            refine W.widen (k := 1) (n := 9) (Nat.le_of_ble_eq_true rfl) (Nat.le_of_ble_eq_true rfl) ?_
            rw [← hQ]
            exact W.iret (v := iI (-1)) hx hb hr (fun t ht hW => ⟨⟨iI (-1), (L, K, N, v), rfl, ⟨(-1), rfl, hI, hE0, hF0, by omega⟩, by rw [ht]; exact hP, va_K.moved hW.alike hK, hD⟩, hS.F ht⟩) hS.2.2 dX12_line_86
          · have h_31 : ok L K z_28 2 := h_29.resolve_left (by omega)
            refine lv_iload_n hx hb dX12_line_57 rfl (lv_at hl 5 rfl) ?_
            refine xr_if_lt (tgt := 85) hx hb dX12_line_58 (by decide) (by omega) (fun h_32 => ?_) (fun h_32 => ?_)
            · refine lv_iconst (v := iI (-1)) hx hb dX12_line_85 rfl ?_
              refine W.widen (k := 1) (n := 9) (Nat.le_of_ble_eq_true rfl) (Nat.le_of_ble_eq_true rfl) ?_
              rw [← hQ]
              exact W.iret (v := iI (-1)) hx hb hr (fun t ht hW => ⟨⟨iI (-1), (L, K, N, v), rfl, ⟨(-1), rfl, hI, hE0, hF0, by omega⟩, by rw [ht]; exact hP, va_K.moved hW.alike hK, hD⟩, hS.F ht⟩) hS.2.2 dX12_line_86
            · refine lv_iload_n hx hb dX12_line_61 rfl (lv_at hl 5 rfl) ?_
              refine lv_bipush (v := iI 31) hx hb dX12_line_62 rfl ?_
              refine xr_icmp_ge (tgt := 85) hx hb dX12_line_64 (by decide) (by omega) (by omega) (fun h_33 => ?_) (fun h_33 => ?_)
              · refine lv_iconst (v := iI (-1)) hx hb dX12_line_85 rfl ?_
                refine W.widen (k := 1) (n := 9) (Nat.le_of_ble_eq_true rfl) (Nat.le_of_ble_eq_true rfl) ?_
                rw [← hQ]
                exact W.iret (v := iI (-1)) hx hb hr (fun t ht hW => ⟨⟨iI (-1), (L, K, N, v), rfl, ⟨(-1), rfl, hI, hE0, hF0, by omega⟩, by rw [ht]; exact hP, va_K.moved hW.alike hK, hD⟩, hS.F ht⟩) hS.2.2 dX12_line_86
              · refine lv_aload_n hx hb dX12_line_67 rfl (lv_at hl 2 rfl) ?_
                have h_34 : 0 ≤ v p0 13 ∧ v p0 13 ≤ 300 := xf_12_13 hI q0
                refine gx_RX12_370 (y := v p0 13) hx hb hj hown hK hP q0 rfl dX12_line_68 ?_
                refine lv_sipush (v := iI 300) hx hb dX12_line_71 rfl ?_
                refine xr_icmp_ge (tgt := 85) hx hb dX12_line_74 (by decide) (by omega) (by omega) (fun h_35 => ?_) (fun h_35 => ?_)
                · refine lv_iconst (v := iI (-1)) hx hb dX12_line_85 rfl ?_
                  refine W.widen (k := 1) (n := 9) (Nat.le_of_ble_eq_true rfl) (Nat.le_of_ble_eq_true rfl) ?_
                  rw [← hQ]
                  exact W.iret (v := iI (-1)) hx hb hr (fun t ht hW => ⟨⟨iI (-1), (L, K, N, v), rfl, ⟨(-1), rfl, hI, hE0, hF0, by omega⟩, by rw [ht]; exact hP, va_K.moved hW.alike hK, hD⟩, hS.F ht⟩) hS.2.2 dX12_line_86
                · refine lv_aload_n hx hb dX12_line_77 rfl (lv_at hl 2 rfl) ?_
                  refine lv_iload_n hx hb dX12_line_78 rfl (lv_at hl 4 rfl) ?_
                  refine jc_i (va_runV (As := [.int (iI p2)]) (rest := []) ⟨hx, hb, hml, hown, hts⟩ (sX12_canLean l dC dI _ L cid K N tW sK sV v p0 p2 hI q0 (by omega)) (cwV 1 hts (jgoodV m_1371 m_1372 m_1373 m_873 m_1374) rfl rfl rfl (by decide +kernel) ⟨(Nat.le_of_ble_eq_true rfl), (Nat.le_of_ble_eq_true rfl)⟩) ⟨xP_blind, xrecv hK hP q0 rfl rfl, fun U hU hW => ⟨rfl, xP_of hU hW hP hK hD hX hS (fun _ h => h) hA⟩⟩ rfl rfl hl.1 rfl (lv_room (Nat.le_of_ble_eq_true rfl)) dX12_line_79 ⟨(Nat.le_of_ble_eq_true rfl), (Nat.le_of_ble_eq_true rfl)⟩) hP hS hA (fun r_36 H locs w_37 hP hS => ?_)
                  obtain ⟨z_38, rfl, h_39⟩ := w_37
                  refine xr_if_ne (tgt := 87) hx hb dX12_line_82 (by decide) (by omega) (fun h_40 => ?_) (fun h_40 => ?_)
                  · refine va_new (ci := 4) (fs := [.int 0, .int 0, .int 0, .int 0, .int 0, .int 0, .int 0, .int 0, .int 0]) (C := RX4) (T := TX4) (N := 9) hx hb hts (jh hin_RX4) tyX4 tyX4_ok hown (hts (.classLink RX12 57 RX4) (jm m_1375)) (hts (.instantiable RX4 9) (jm m_1376)) (hts (.initialized RX4) (jm m_1377)) hK hP hD hS hA rfl jd_RX4 (Nat.le_of_ble_eq_true rfl) (Nat.le_of_ble_eq_true rfl) dX12_line_87 (fun q_41 H hPn hDn hS => ?_)
                    refine W.widen (k := 1) (n := 9) (Nat.le_of_ble_eq_true rfl) (Nat.le_of_ble_eq_true rfl) ?_
                    have hP := jp_init hPn
                    have hD := jd_init hDn
                    refine lv_dup hx hb dX12_line_90 rfl ?_
                    refine lv_iload_n hx hb dX12_line_91 rfl (lv_at hl 3 rfl) ?_
                    refine xq_aload hx hb dX12_line_92 (lv_at hl 1 rfl) ?_
                    refine jt_q (.ref z_3.toNat) (rv_ref (h_6).1) ?_
                    refine gx_RX12_313 (y := v z_3 14) hx hb hj hown hK hP h_6 rfl dX12_line_94 ?_
                    refine lv_iload_n hx hb dX12_line_97 rfl (lv_at hl 5 rfl) ?_
                    refine jci_v (va_runI (As := [.int (iI p1), .int (iI (v z_3 14)), .int (iI p3)]) (rest := [.ref q_41]) ⟨hx, hb, hml, hown, hts⟩ (iX4_init_1 l dC dI _ q_41 (iI p1) (iI (v z_3 14)) (iI p3)) (cwI 3 hts (jgoodI m_1387) rfl rfl rfl (hts (.initialized RX4) (jm m_1377)) (hts (.methodLink RX12 374 yX4_init) (jm m_1388)) (hts (.instanceMethod yX4_init) (jm m_1389)) rfl (by decide +kernel) ⟨(Nat.le_of_ble_eq_true rfl), (Nat.le_of_ble_eq_true rfl)⟩) ⟨jw_blind, fun U hU hW => ⟨rfl, jw_of hU hW (jp_last hPn) (hK.sub [] rfl) (jd_last hDn)⟩⟩ rfl rfl hl.1 rfl (lv_room (Nat.le_of_ble_eq_true rfl)) dX12_line_98 ⟨(Nat.le_of_ble_eq_true rfl), (Nat.le_of_ble_eq_true rfl)⟩) hPn hDn hS hA (fun u_42 H locs hPn hK2 hDn hS => ?_)
                    refine W.widen (k := 1) (n := 9) (Nat.le_of_ble_eq_true rfl) (Nat.le_of_ble_eq_true rfl) ?_
                    obtain ⟨z_43, L_44, K_45, N_46, v_47, hz9, E_48, h_49, q_50, h_51, h_52, f_53, I_54, hP9, hD9⟩ := xnew_4 hI hPn hDn ⟨by omega, by omega⟩ ⟨by omega, by omega⟩ ⟨by omega, by omega⟩
                    subst hz9
                    have hP := hP9
                    have hD := hD9
                    have F_56 := frE_frE (W := [(0, 15), (0, 16), (0, 17), (2, 5), (4, 3), (4, 4), (4, 5), (4, 6), (4, 8), (12, 13), (33, (-1)), (34, (-1)), (39, (-1)), (99, 0)]) hE0 (f_53 []) rfl hF0
                    have E_55 := xE_tr hE0 E_48
                    have h_57 := xE_ok E_48 q0
                    have h_58 := xE_ok E_48 h_6
                    have h_59 := xE_ok E_48 h_31
                    have h_60 := xE_nl E_48 h_4
                    have h_61 := xE_nl E_48 h_29
                    refine lv_astore (i := 6) (lv' := [(6, .ref z_43.toNat), (5, rv z_28), (4, rv z_3), (0, .ref p0.toNat), (1, .int (iI p1)), (2, .int (iI p2)), (3, .int (iI p3))]) hx hb dX12_line_101 hl (by decide) (by simp [rv_cat]) (fun ls hl => ?_)
                    refine lv_aload_n hx hb dX12_line_103 rfl (lv_at hl 3 rfl) ?_
                    refine lv_aload hx hb dX12_line_104 (lv_at hl 0 rfl) ?_
                    refine lv_iload_n hx hb dX12_line_106 rfl (lv_at hl 5 rfl) ?_
                    refine jcg_v (va_runV (As := [.ref z_43.toNat, .int (iI p2)]) (rest := []) ⟨hx, hb, hml, hown, hts⟩ (sX12_lean l dC dI _ L_44 cid K_45 N_46 tW sK sV v_47 p0 z_43 p2 I_54 h_57 h_49 (by omega)) (cwV 2 hts (jgoodV m_1390 m_1391 m_1392 m_873 m_1393) rfl rfl rfl (by decide +kernel) ⟨(Nat.le_of_ble_eq_true rfl), (Nat.le_of_ble_eq_true rfl)⟩) ⟨xP_blind, xrecv hK hP h_57 rfl rfl, fun U hU hW => ⟨rfl, xP_of hU hW hP hK hD hX hS (fun _ h => h) hA⟩⟩ rfl rfl hl.1 rfl (lv_room (Nat.le_of_ble_eq_true rfl)) dX12_line_107 ⟨(Nat.le_of_ble_eq_true rfl), (Nat.le_of_ble_eq_true rfl)⟩) hD hS hA (fun v_65 H locs w_63 hP hK hD hS => ?_)
                    obtain ⟨I_67, f_66⟩ := w_63
                    have hP : va_P (dC, dI) vwCl (xG L_44 cid K_45 N_46 v_65) H := hP
                    have hD : va_D A (xG L_44 cid K_45 N_46 v_65) := hD
                    refine lv_aload hx hb dX12_line_110 (lv_at hl 0 rfl) ?_
                    refine lv_iconst (v := iI 0) hx hb dX12_line_112 rfl ?_
                    refine lv_aload_n hx hb dX12_line_113 rfl (lv_at hl 3 rfl) ?_
                    refine lv_bipush (v := iI 11) hx hb dX12_line_114 rfl ?_
                    refine xq_aload hx hb dX12_line_116 (lv_at hl 2 rfl) ?_
                    refine jt_q (.ref z_3.toNat) (rv_ref (h_58).1) ?_
                    have h_68 : (-2147483648) ≤ v z_3 7 ∧ v z_3 7 ≤ 2147483647 := xf_0_7 hI h_6
                    refine gx_RX12_177 (y := v z_3 7) hx hb hj hown hK hP h_58 (((fr_use h_58 f_66 rfl)).trans (frE_use h_6 (f_53 []) rfl)) dX12_line_118 ?_
                    refine xr_add hx hb dX12_line_121 ?_
                    refine xr_kept (fun z_69 h_70 h_71 => ?_)
                    refine xq_aload hx hb dX12_line_122 (lv_at hl 2 rfl) ?_
                    refine jt_q (.ref z_3.toNat) (rv_ref (h_58).1) ?_
                    refine xq_aload hx hb dX12_line_124 (lv_at hl 2 rfl) ?_
                    refine jt_q (.ref z_3.toNat) (rv_ref (h_58).1) ?_
                    refine gx_RX12_313 (y := v z_3 14) hx hb hj hown hK hP h_58 (((fr_use h_58 f_66 rfl)).trans (frE_use h_6 (f_53 []) rfl)) dX12_line_126 ?_
                    refine jcg_i (va_runV (As := [.int (iI z_69), .ref z_3.toNat, .int (iI (v z_3 14))]) (rest := [.int (iI 0), .ref z_43.toNat]) ⟨hx, hb, hml, hown, hts⟩ (sX12_valueFor l dC dI _ L_44 cid K_45 N_46 tW sK sV v_65 p0 z_69 z_3 (v z_3 14) I_67 h_57 (by omega) h_58 (by omega)) (cwV 3 hts (jgoodV m_1093 m_1094 m_1095 m_873 m_1096) rfl rfl rfl (by decide +kernel) ⟨(Nat.le_of_ble_eq_true rfl), (Nat.le_of_ble_eq_true rfl)⟩) ⟨xP_blind, xrecv hK hP h_57 rfl rfl, fun U hU hW => ⟨rfl, xP_of hU hW hP hK hD hX hS (fun _ h => h) hA⟩⟩ rfl rfl hl.1 rfl (lv_room (Nat.le_of_ble_eq_true rfl)) dX12_line_129 ⟨(Nat.le_of_ble_eq_true rfl), (Nat.le_of_ble_eq_true rfl)⟩) hD hS hA (fun r_72 v_76 H locs w_73 hP hK hD hS => ?_)
                    obtain ⟨z_74, rfl, I_78, f_77, h_75⟩ := w_73
                    have hP : va_P (dC, dI) vwCl (xG L_44 cid K_45 N_46 v_76) H := hP
                    have hD : va_D A (xG L_44 cid K_45 N_46 v_76) := hD
                    refine va_mmax hx hb (by rw [hml]; exact hl.1.symm) hown (hj _ m_1182) (hj _ m_761) (hj _ m_762) (hj _ m_763) (Nat.le_of_ble_eq_true rfl) (Nat.le_of_ble_eq_true rfl) (Nat.le_of_ble_eq_true rfl) (Nat.le_of_ble_eq_true rfl) dX12_line_132 ?_
                    refine xm_max (by omega) (by omega) (fun z_79 h_80 => ?_)
                    refine px_RX12_382 (y := z_79) hx hb hj hown hK hP hD hS I_78 h_49 ⟨by omega, by omega⟩ dX12_line_135 (fun v_81 H locs f_82 e_83 o_84 I_85 hP hD hS => ?_)
                    refine lv_aload hx hb dX12_line_138 (lv_at hl 0 rfl) ?_
                    have h_86 : (-2147483648) ≤ v_65 z_43 3 ∧ v_65 z_43 3 ≤ 2147483647 := xf_4_3 I_67 h_49
                    refine gx_RX12_385 (y := v_65 z_43 3) hx hb hj hown hK hP h_49 (((fr_use h_49 f_82 rfl)).trans (fr_use h_49 f_77 rfl)) dX12_line_140 ?_
                    refine lv_iconst (v := iI (-1)) hx hb dX12_line_143 rfl ?_
                    have J164 : ∀ (vc164 : Int → Int → Int) (H : Heap) (locs : List Loc) (ls : Array Slot), fr K_45 [(0, 16)] vc164 v_81 → xI L_44 K_45 N_46 vc164 → va_P (dC, dI) vwCl (xG L_44 cid K_45 N_46 vc164) H → va_D A (xG L_44 cid K_45 N_46 vc164) → va_S A s.heap H locs → lv_has ls 7 [(6, .ref z_43.toNat), (5, rv z_28), (4, rv z_3), (0, .ref p0.toNat), (1, .int (iI p1)), (2, .int (iI p2)), (3, .int (iI p3))] → W p l e ({ frames := 5, cells := 1, slots := 9, locals := 139 }) s m ([.ref p0.toNat, .int (iI p1), .int (iI p2), .int (iI p3)] : List Value).toArray below meth c H locs 1 9 Q (F0 m 164 ls []) := by
                      intro vc164 H locs ls f_87 I_88 hP hD hS hl
                      refine xq_aload hx hb dX12_line_164 (lv_at hl 2 rfl) ?_
                      refine jt_q (.ref z_3.toNat) (rv_ref (h_58).1) ?_
                      refine lv_dup hx hb dX12_line_166 rfl ?_
                      have h_89 : (-2147483648) ≤ v z_3 17 ∧ v z_3 17 ≤ 2147483647 := xf_0_17 hI h_6
                      refine gx_RX12_325 (y := v z_3 17) hx hb hj hown hK hP h_58 (((fr_use h_58 f_87 rfl)).trans (((fr_use h_58 f_82 rfl)).trans (((fr_use h_58 f_77 rfl)).trans (((fr_use h_58 f_66 rfl)).trans (frE_use h_6 (f_53 []) rfl))))) dX12_line_167 ?_
                      refine lv_iconst (v := iI 1) hx hb dX12_line_170 rfl ?_
                      refine xq_aload hx hb dX12_line_171 (lv_at hl 2 rfl) ?_
                      refine jt_q (.ref z_3.toNat) (rv_ref (h_58).1) ?_
                      refine gx_RX12_313 (y := v z_3 14) hx hb hj hown hK hP h_58 (((fr_use h_58 f_87 rfl)).trans (((fr_use h_58 f_82 rfl)).trans (((fr_use h_58 f_77 rfl)).trans (((fr_use h_58 f_66 rfl)).trans (frE_use h_6 (f_53 []) rfl))))) dX12_line_173 ?_
                      refine lv_ishl hx hb dX12_line_176 ?_
                      refine xr_any (fun z_90 h_91 => ?_)
                      refine lv_ior hx hb dX12_line_177 ?_
                      refine xr_any (fun z_92 h_93 => ?_)
                      refine px_RX12_325 (y := z_92) hx hb hj hown hK hP hD hS I_88 h_58 ⟨by omega, by omega⟩ dX12_line_178 (fun v_94 H locs f_95 e_96 o_97 I_98 hP hD hS => ?_)
                      refine xq_aload hx hb dX12_line_181 (lv_at hl 2 rfl) ?_
                      refine jt_q (.ref z_3.toNat) (rv_ref (h_58).1) ?_
                      refine lv_dup hx hb dX12_line_183 rfl ?_
                      refine gx_RX12_342 (y := v z_3 15) hx hb hj hown hK hP h_58 (((fr_use h_58 f_95 rfl)).trans (((fr_use h_58 f_87 rfl)).trans (((fr_use h_58 f_82 rfl)).trans (((fr_use h_58 f_77 rfl)).trans (((fr_use h_58 f_66 rfl)).trans (frE_use h_6 (f_53 []) rfl)))))) dX12_line_184 ?_
                      refine lv_iconst (v := iI 1) hx hb dX12_line_187 rfl ?_
                      refine xr_add hx hb dX12_line_188 ?_
                      refine px_RX12_342 (y := (v z_3 15) + 1) hx hb hj hown hK hP hD hS I_98 h_58 ⟨by omega, by omega⟩ dX12_line_189 (fun v_99 H locs f_100 e_101 o_102 I_103 hP hD hS => ?_)
                      refine xq_aload hx hb dX12_line_192 (lv_at hl 1 rfl) ?_
                      refine jt_q (.ref z_28.toNat) (rv_ref (h_59).1) ?_
                      refine lv_dup hx hb dX12_line_194 rfl ?_
                      have h_104 : (-2147483648) ≤ v z_28 5 ∧ v z_28 5 ≤ 2147483647 := xf_2_5 hI h_31
                      refine gx_RX12_388 (y := v z_28 5) hx hb hj hown hK hP h_59 (((fr_use h_59 f_100 rfl)).trans (((fr_use h_59 f_95 rfl)).trans (((fr_use h_59 f_87 rfl)).trans (((fr_use h_59 f_82 rfl)).trans (((fr_use h_59 f_77 rfl)).trans (((fr_use h_59 f_66 rfl)).trans (frE_use h_31 (f_53 []) rfl))))))) dX12_line_195 ?_
                      refine lv_aload hx hb dX12_line_198 (lv_at hl 0 rfl) ?_
                      refine gx_RX12_382 (y := z_79) hx hb hj hown hK hP h_49 (((fr_use h_49 f_100 rfl)).trans (((fr_use h_49 f_95 rfl)).trans (((fr_use h_49 f_87 rfl)).trans e_83))) dX12_line_200 ?_
                      refine xr_add hx hb dX12_line_203 ?_
                      refine xr_kept (fun z_105 h_106 h_107 => ?_)
                      refine px_RX12_388 (y := z_105) hx hb hj hown hK hP hD hS I_103 h_59 ⟨by omega, by omega⟩ dX12_line_204 (fun v_108 H locs f_109 e_110 o_111 I_112 hP hD hS => ?_)
                      refine lv_aload_n hx hb dX12_line_207 rfl (lv_at hl 3 rfl) ?_
                      have h_113 : ok L_44 K_45 (v p0 12) 39 := (by have h9 := xf_12_12 I_112 h_57; rw [(((fr_use h_57 f_109 rfl)).trans (((fr_use h_57 f_100 rfl)).trans (((fr_use h_57 f_95 rfl)).trans (((fr_use h_57 f_87 rfl)).trans (((fr_use h_57 f_82 rfl)).trans (((fr_use h_57 f_77 rfl)).trans (((fr_use h_57 f_66 rfl)).trans (frE_use q0 (f_53 []) rfl))))))))] at h9; exact h9)
                      have h_114 : N_46 (v p0 12) = 300 := xn_39 I_112 h_113
                      refine gx_RX12_59 (y := v p0 12) hx hb hj hown hK hP h_57 ((xf_12_12 I_112 h_57).1) (((fr_use h_57 f_109 rfl)).trans (((fr_use h_57 f_100 rfl)).trans (((fr_use h_57 f_95 rfl)).trans (((fr_use h_57 f_87 rfl)).trans (((fr_use h_57 f_82 rfl)).trans (((fr_use h_57 f_77 rfl)).trans (((fr_use h_57 f_66 rfl)).trans (frE_use q0 (f_53 []) rfl)))))))) dX12_line_208 ?_
                      refine lv_aload_n hx hb dX12_line_211 rfl (lv_at hl 3 rfl) ?_
                      refine gx_RX12_370 (y := v p0 13) hx hb hj hown hK hP h_57 (((fr_use h_57 f_109 rfl)).trans (((fr_use h_57 f_100 rfl)).trans (((fr_use h_57 f_95 rfl)).trans (((fr_use h_57 f_87 rfl)).trans (((fr_use h_57 f_82 rfl)).trans (((fr_use h_57 f_77 rfl)).trans (((fr_use h_57 f_66 rfl)).trans (frE_use q0 (f_53 []) rfl)))))))) dX12_line_212 ?_
                      refine lv_aload hx hb dX12_line_215 (lv_at hl 0 rfl) ?_
                      refine sx_39 (y := z_43) hx hb hK hP hD hS I_112 h_113 (by omega) (by omega) (by omega) h_49 dX12_line_217 (fun v_115 H locs f_116 e_117 o_118 I_119 hP hD hS => ?_)
                      refine lv_aload_n hx hb dX12_line_218 rfl (lv_at hl 3 rfl) ?_
                      refine lv_dup hx hb dX12_line_219 rfl ?_
                      refine gx_RX12_370 (y := v p0 13) hx hb hj hown hK hP h_57 (((fr_use h_57 f_116 rfl)).trans (((fr_use h_57 f_109 rfl)).trans (((fr_use h_57 f_100 rfl)).trans (((fr_use h_57 f_95 rfl)).trans (((fr_use h_57 f_87 rfl)).trans (((fr_use h_57 f_82 rfl)).trans (((fr_use h_57 f_77 rfl)).trans (((fr_use h_57 f_66 rfl)).trans (frE_use q0 (f_53 []) rfl))))))))) dX12_line_220 ?_
                      refine lv_iconst (v := iI 1) hx hb dX12_line_223 rfl ?_
                      refine xr_add hx hb dX12_line_224 ?_
                      refine px_RX12_370 (y := (v p0 13) + 1) hx hb hj hown hK hP hD hS I_119 h_57 ⟨by omega, by omega⟩ dX12_line_225 (fun v_120 H locs f_121 e_122 o_123 I_124 hP hD hS => ?_)
                      refine lv_aload_n hx hb dX12_line_228 rfl (lv_at hl 3 rfl) ?_
                      refine gx_RX12_370 (y := (v p0 13) + 1) hx hb hj hown hK hP h_57 e_122 dX12_line_229 ?_
                      refine lv_iconst (v := iI 1) hx hb dX12_line_232 rfl ?_
                      refine xr_sub hx hb dX12_line_233 ?_
                      have F_125 := frE_fr (W := [(0, 15), (0, 16), (0, 17), (2, 5), (4, 3), (4, 4), (4, 5), (4, 6), (4, 8), (12, 13), (33, (-1)), (34, (-1)), (39, (-1)), (99, 0)]) (W1 := [(0, 15), (0, 16), (0, 17), (2, 5), (4, 3), (4, 4), (4, 5), (4, 6), (4, 8), (12, 13), (33, (-1)), (34, (-1)), (39, (-1)), (99, 0)]) E_55 (fr_tr f_121 rfl (fr_tr f_116 rfl (fr_tr f_109 rfl (fr_tr f_100 rfl (fr_tr f_95 rfl (fr_tr f_87 rfl (fr_tr f_82 rfl (fr_tr f_77 rfl (fr_tr f_66 rfl fr_rf))))))))) rfl F_56
                      rw [← hQ]
                      exact W.iret (v := iI (((v p0 13) + 1) - 1)) hx hb hr (fun t ht hW => ⟨⟨iI (((v p0 13) + 1) - 1), (L_44, K_45, N_46, v_120), rfl, ⟨((v p0 13) + 1) - 1, rfl, I_124, E_55, F_125, by omega⟩, by rw [ht]; exact hP, va_K.moved hW.alike hK, hD⟩, hS.F ht⟩) hS.2.2 dX12_line_234
                    refine xr_icmp_eq (tgt := 164) hx hb dX12_line_144 (by decide) (by omega) (by omega) (fun h_126 => ?_) (fun h_126 => ?_)
                    · exact J164 v_81 H locs ls fr_rf I_85 hP hD hS hl
                    · refine xq_aload hx hb dX12_line_147 (lv_at hl 2 rfl) ?_
                      refine jt_q (.ref z_3.toNat) (rv_ref (h_58).1) ?_
                      refine lv_dup hx hb dX12_line_149 rfl ?_
                      refine gx_RX12_345 (y := v_81 z_3 16) hx hb hj hown hK hP h_58 rfl dX12_line_150 ?_
                      refine lv_lconst hx hb dX12_line_153 rfl ?_
                      refine lv_aload hx hb dX12_line_154 (lv_at hl 0 rfl) ?_
                      refine gx_RX12_385 (y := v_65 z_43 3) hx hb hj hown hK hP h_49 (((fr_use h_49 f_82 rfl)).trans (fr_use h_49 f_77 rfl)) dX12_line_156 ?_
                      refine lv_lshl hx hb dX12_line_159 rfl ?_
                      refine xl_any (fun u_127 => ?_)
                      refine lv_lor hx hb dX12_line_160 ?_
                      refine xl_any (fun u_128 => ?_)
                      refine px_RX12_345 (y := u_128) hx hb hj hown hK hP hD hS I_85 h_58 trivial dX12_line_161 (fun v_129 H locs f_130 e_131 o_132 I_133 hP hD hS => ?_)
                      exact J164 v_129 H locs ls (fr_tr f_130 rfl fr_rf) I_133 hP hD hS hl
                  · refine lv_iconst (v := iI (-1)) hx hb dX12_line_85 rfl ?_
                    refine W.widen (k := 1) (n := 9) (Nat.le_of_ble_eq_true rfl) (Nat.le_of_ble_eq_true rfl) ?_
                    rw [← hQ]
                    exact W.iret (v := iI (-1)) hx hb hr (fun t ht hW => ⟨⟨iI (-1), (L, K, N, v), rfl, ⟨(-1), rfl, hI, hE0, hF0, by omega⟩, by rw [ht]; exact hP, va_K.moved hW.alike hK, hD⟩, hS.F ht⟩) hS.2.2 dX12_line_86
        · refine lv_iconst (v := iI (-1)) hx hb dX12_line_39 rfl ?_
          refine W.widen (k := 1) (n := 9) (Nat.le_of_ble_eq_true rfl) (Nat.le_of_ble_eq_true rfl) ?_
          rw [← hQ]
          exact W.iret (v := iI (-1)) hx hb hr (fun t ht hW => ⟨⟨iI (-1), (L, K, N, v), rfl, ⟨(-1), rfl, hI, hE0, hF0, by omega⟩, by rw [ht]; exact hP, va_K.moved hW.alike hK, hD⟩, hS.F ht⟩) hS.2.2 dX12_line_40
set_option maxHeartbeats 2000000 in
set_option maxRecDepth 100000 in
theorem sX12_lay (l : Launch) (dC : Nat → ClassId) (dI : Nat → Nat → Nat) (sz : Nat) (L : List Nat) (cid : Nat → ClassId) (K : Int → Nat) (N : Int → Int) (tW : Nat) (sK sV : Nat → Nat) (v : Int → Int → Int) (p0 : Int) (p1 : Int) (p2 : Int) (hI : xI L K N v) (q0 : ok L K p0 12) (q1 : ok L K p1 11) (q2 : rg p2) : Met l yX12_lay (jk yX12_lay cX12_lay 5 none) ({ frames := 3, cells := 2, slots := 12060, locals := 102 }) (va_Pc [.ref p0.toNat, .ref p1.toNat, .int (iI p2)] (xP (dC, dI) (xG L cid K N v) (xT cid) tW sK sV sz)) (va_Qv (fun (u : (List Nat × (Int → Nat) × (Int → Int) × (Int → Int → Int))) => (xI u.1 u.2.1 u.2.2.1 u.2.2.2) ∧ (xE L K N u.1 u.2.1 u.2.2.1) ∧ (frE L K [(0, 12), (0, 13), (4, 7), (11, 1), (11, 2), (11, 3), (11, 4), (11, 5), (11, 6), (12, 1), (63, (-1)), (64, (-1)), (99, 0)] u.2.2.2 v)) (fun u t => va_P (dC, dI) vwCl (xG u.1 cid u.2.1 u.2.2.1 u.2.2.2) t.heap ∧ va_K (dC, dI) vwCl (xT cid) t ∧ va_D (va_A (xG L cid K N v) sz) (xG u.1 cid u.2.1 u.2.2.1 u.2.2.2)) (va_A (xG L cid K N v) sz)) 2 12060 (va_A (xG L cid K N v) sz) := by
  refine Met.ofW (cc := cX12_lay) (maxL := 5) (ret := none) (by decide) rfl ?_
  intro p e s m args below meth c s₁ B hml hv
  obtain ⟨rfl, ⟨hsz, hP, hK, hD0⟩, hX⟩ := hv
  have hx := B.exec
  have hb := B.bytes
  have hr := B.returns
  have hts := atoms_spec (ws := (jk yX12_lay cX12_lay 5 none)) B.pre
  have hj : ∀ w ∈ jw, w.before ([.ref p0.toNat, .ref p1.toNat, .int (iI p2)] : List Value).toArray s = true := fun w h => hts w (jm h)
  have hown : s.vm.findClass RX12 = some m.cls := findClass_of_methodNamed B.named
  subst hsz
  have hD := hD0.self (sz := s.heap.size)
  generalize hAe : (va_A (xG L cid K N v) s.heap.size) = A at hD hX ⊢
  have hA : ∀ q : Nat, s.heap.size ≤ q → A q := fun q h => by rw [← hAe]; exact Or.inr h
  have hS : va_S A s.heap s.heap [] := va_S.rf
  have hE0 : xE L K N L K N := xE_rf
  have hF0 : frE L K [(0, 12), (0, 13), (4, 7), (11, 1), (11, 2), (11, 3), (11, 4), (11, 5), (11, 6), (12, 1), (63, (-1)), (64, (-1)), (99, 0)] v v := frE_rf
  have hXa := hX
  have hP : va_P (dC, dI) vwCl (xG L cid K N v) s.heap := hP
  have hl := lv_entry ([.ref p0.toNat, .ref p1.toNat, .int (iI p2)]) (n := 5) (Nat.le_of_ble_eq_true rfl)
  rw [lg_entry_eq]
  generalize (lg_sl ([.ref p0.toNat, .ref p1.toNat, .int (iI p2)]) ++ List.replicate (5 - (lg_sl ([.ref p0.toNat, .ref p1.toNat, .int (iI p2)])).length) Slot.unset).toArray = ls at hl ⊢
  have hl : lv_has ls 5 [(0, .ref p0.toNat), (1, .ref p1.toNat), (2, .int (iI p2))] := hl
  generalize hQ : MQ below (va_Qv (fun (u : (List Nat × (Int → Nat) × (Int → Int) × (Int → Int → Int))) => (xI u.1 u.2.1 u.2.2.1 u.2.2.2) ∧ (xE L K N u.1 u.2.1 u.2.2.1) ∧ (frE L K [(0, 12), (0, 13), (4, 7), (11, 1), (11, 2), (11, 3), (11, 4), (11, 5), (11, 6), (12, 1), (63, (-1)), (64, (-1)), (99, 0)] u.2.2.2 v)) (fun u t => va_P (dC, dI) vwCl (xG u.1 cid u.2.1 u.2.2.1 u.2.2.2) t.heap ∧ va_K (dC, dI) vwCl (xT cid) t ∧ va_D A (xG u.1 cid u.2.1 u.2.2.1 u.2.2.2)) A) ([.ref p0.toNat, .ref p1.toNat, .int (iI p2)] : List Value).toArray s 2 12060 A = Q
  suffices ST : ∀ (H : Heap) (locs : List Loc), va_P (dC, dI) vwCl (xG L cid K N v) H → va_S A s.heap H locs → W p l e ({ frames := 3, cells := 2, slots := 12060, locals := 102 }) s m ([.ref p0.toNat, .ref p1.toNat, .int (iI p2)] : List Value).toArray below meth c H locs 0 0 Q (F0 m 0 ls []) from ST _ _ hP hS
  clear hP hS
  intro H locs hP hS
  refine lv_aload_n hx hb dX12_lay_0 rfl (lv_at hl 1 rfl) ?_
  refine lv_aload_n hx hb dX12_lay_1 rfl (lv_at hl 0 rfl) ?_
  refine jc_i (va_runV (As := []) (rest := [.ref p1.toNat]) ⟨hx, hb, hml, hown, hts⟩ (sX12_linesInRow l dC dI _ L cid K N tW sK sV v p0 hI q0) (cwV 0 hts (jgoodV m_1394 m_1395 m_1396 m_873 m_1397) rfl rfl rfl (by decide +kernel) ⟨(Nat.le_of_ble_eq_true rfl), (Nat.le_of_ble_eq_true rfl)⟩) ⟨xP_blind, xrecv hK hP q0 rfl rfl, fun U hU hW => ⟨rfl, xP_of hU hW hP hK hD hX hS (fun _ h => h) hA⟩⟩ rfl rfl hl.1 rfl (lv_room (Nat.le_of_ble_eq_true rfl)) dX12_lay_2 ⟨(Nat.le_of_ble_eq_true rfl), (Nat.le_of_ble_eq_true rfl)⟩) hP hS hA (fun r_1 H locs w_2 hP hS => ?_)
  obtain ⟨z_3, rfl, h_4⟩ := w_2
  refine va_newa (atype := .int) (n := iI z_3) (N' := Int.toNat z_3) (a0 := (Int.toNat z_3, .inl (fun _ => 0))) (ty := .int) hx hb (hts (.arrayClass .int) (jm m_2)) rfl hK hP hD hS hA (fun _ => rfl) (xn_nn (by omega) (by omega)) (iI_clamp (by omega) (by omega)) (show Int.toNat z_3 * 4 ≤ 536870912 by omega) (Nat.le_of_ble_eq_true rfl) (show 0 + Int.toNat z_3 ≤ 12060 by omega) dX12_lay_5 (fun q_5 c_6 H hK2 hP hD hS => ?_)
  refine W.widen (k := 1) (n := 12000) (Nat.le_of_ble_eq_true rfl) (by omega) ?_
  obtain ⟨z_7, L_8, K_9, N_10, v_11, hz9, E_12, h_13, q_14, h_15, h_16, f_17, I_18, hP9, hD9⟩ := xzero_64 hK2 hI hP hD (by omega)
  subst hz9
  have hP := hP9
  have hD := hD9
  have F_20 := frE_frE (W := [(0, 12), (0, 13), (4, 7), (11, 1), (11, 2), (11, 3), (11, 4), (11, 5), (11, 6), (12, 1), (63, (-1)), (64, (-1)), (99, 0)]) hE0 (f_17 []) rfl hF0
  have E_19 := xE_tr hE0 E_12
  have h_21 := xE_ok E_12 q0
  have h_22 := xE_ok E_12 q1
  have h_23 : 0 ≤ N_10 z_7 ∧ N_10 z_7 ≤ 12000 := xn_64 I_18 h_13
  refine px_RX12_458 (y := z_7) hx hb hj hown hK hP hD hS I_18 h_22 h_13 dX12_lay_7 (fun v_24 H locs f_25 e_26 o_27 I_28 hP hD hS => ?_)
  refine lv_aload_n hx hb dX12_lay_10 rfl (lv_at hl 1 rfl) ?_
  refine lv_aload_n hx hb dX12_lay_11 rfl (lv_at hl 0 rfl) ?_
  have h_29 : ok L_8 K_9 (v p0 8) 37 := (by have h9 := xf_12_8 I_28 h_21; rw [(((fr_use h_21 f_25 rfl)).trans (frE_use q0 (f_17 []) rfl))] at h9; exact h9)
  have h_30 : N_10 (v p0 8) = 60 := xn_37 I_28 h_29
  refine gx_RX12_47 (y := v p0 8) hx hb hj hown hK hP h_21 ((xf_12_8 I_28 h_21).1) (((fr_use h_21 f_25 rfl)).trans (frE_use q0 (f_17 []) rfl)) dX12_lay_12 ?_
  refine lv_iconst (v := iI 0) hx hb dX12_lay_15 rfl ?_
  refine lv_aload_n hx hb dX12_lay_16 rfl (lv_at hl 0 rfl) ?_
  have h_31 : 0 ≤ v p0 9 ∧ v p0 9 ≤ 60 := xf_12_9 hI q0
  refine gx_RX12_268 (y := v p0 9) hx hb hj hown hK hP h_21 (((fr_use h_21 f_25 rfl)).trans (frE_use q0 (f_17 []) rfl)) dX12_lay_17 ?_
  refine va_mmax hx hb (by rw [hml]; exact hl.1.symm) hown (hj _ m_1182) (hj _ m_761) (hj _ m_762) (hj _ m_763) (Nat.le_of_ble_eq_true rfl) (Nat.le_of_ble_eq_true rfl) (Nat.le_of_ble_eq_true rfl) (Nat.le_of_ble_eq_true rfl) dX12_lay_20 ?_
  refine xm_max (by omega) (by omega) (fun z_32 h_33 => ?_)
  refine jcg_q (va_runS (As := [.ref (v p0 8).toNat, .int (iI z_32)]) (rest := [.ref p1.toNat]) ⟨hx, hb, hml, hown, hts⟩ (sJ7_copyOf_59c91_37_63 l dC dI _ L_8 cid K_9 N_10 tW sK sV v_24 (v p0 8) z_32 I_28 h_29 (by omega) (by omega)) (va_cwS 2 hts (jgoodS m_1398 m_1313 m_842 m_1314) rfl rfl rfl (by decide +kernel) ⟨(Nat.le_of_ble_eq_true rfl), (Nat.le_of_ble_eq_true rfl)⟩) ⟨xP_blind, fun U hU hW => ⟨rfl, xP_of hU hW hP hK hD hX hS (fun _ h => h) hA⟩⟩ rfl rfl hl.1 rfl (lv_room (Nat.le_of_ble_eq_true rfl)) dX12_lay_23 ⟨(Nat.le_of_ble_eq_true rfl), (Nat.le_of_ble_eq_true rfl)⟩) hD hS hA (fun r_34 u_38 H locs w_35 hP hK hD hS => ?_)
  refine W.widen (k := 2) (n := 12060) (Nat.le_of_ble_eq_true rfl) (Nat.le_of_ble_eq_true rfl) ?_
  obtain ⟨L_39, K_40, N_41, v_42⟩ := u_38
  obtain ⟨z_36, rfl, I_44, E_45, f_43, h_37⟩ := w_35
  have hP : va_P (dC, dI) vwCl (xG L_39 cid K_40 N_41 v_42) H := hP
  have hD : va_D A (xG L_39 cid K_40 N_41 v_42) := hD
  have I_44 : xI L_39 K_40 N_41 v_42 := I_44
  have E_45 : xE L_8 K_9 N_10 L_39 K_40 N_41 := E_45
  have f_43 : frE L_8 K_9 [(63, (-1)), (99, 0)] v_42 v_24 := f_43
  have F_46 := frE_fr (W := [(0, 12), (0, 13), (4, 7), (11, 1), (11, 2), (11, 3), (11, 4), (11, 5), (11, 6), (12, 1), (63, (-1)), (64, (-1)), (99, 0)]) (W1 := [(0, 12), (0, 13), (4, 7), (11, 1), (11, 2), (11, 3), (11, 4), (11, 5), (11, 6), (12, 1), (63, (-1)), (64, (-1)), (99, 0)]) E_19 (fr_tr f_25 rfl fr_rf) rfl F_20
  have F_48 := frE_frE (W := [(0, 12), (0, 13), (4, 7), (11, 1), (11, 2), (11, 3), (11, 4), (11, 5), (11, 6), (12, 1), (63, (-1)), (64, (-1)), (99, 0)]) E_19 f_43 rfl F_46
  have E_47 := xE_tr E_19 E_45
  have h_49 := xE_ok E_45 h_21
  have h_50 := xE_ok E_45 h_22
  have h_51 := xE_ok E_45 h_13
  have h_52 := xE_ok E_45 h_29
  have h_53 : 0 ≤ N_41 z_7 ∧ N_41 z_7 ≤ 12000 := xn_64 I_44 h_51
  have h_54 : N_41 (v p0 8) = 60 := xn_37 I_44 h_52
  refine jt_q (.ref z_36.toNat) (rv_ref h_37.1) ?_
  refine px_RX12_263 (y := z_36) hx hb hj hown hK hP hD hS I_44 h_50 h_37 dX12_lay_26 (fun v_55 H locs f_56 e_57 o_58 I_59 hP hD hS => ?_)
  refine lv_aload_n hx hb dX12_lay_29 rfl (lv_at hl 1 rfl) ?_
  refine lv_aload_n hx hb dX12_lay_30 rfl (lv_at hl 0 rfl) ?_
  have h_60 : 0 ≤ v p0 0 ∧ v p0 0 ≤ 2000 := xf_12_0 hI q0
  refine gx_RX12_133 (y := v p0 0) hx hb hj hown hK hP h_49 (((fr_use h_49 f_56 rfl)).trans (((frE_use h_21 f_43 rfl)).trans (((fr_use h_21 f_25 rfl)).trans (frE_use q0 (f_17 []) rfl)))) dX12_lay_31 ?_
  refine px_RX12_170 (y := v p0 0) hx hb hj hown hK hP hD hS I_59 h_50 ⟨by omega, by omega⟩ dX12_lay_34 (fun v_61 H locs f_62 e_63 o_64 I_65 hP hD hS => ?_)
  refine lv_aload_n hx hb dX12_lay_37 rfl (lv_at hl 0 rfl) ?_
  refine lv_dup hx hb dX12_lay_38 rfl ?_
  have h_66 : (-2147483648) ≤ v p0 1 ∧ v p0 1 ≤ 2147483647 := xf_12_1 hI q0
  refine gx_RX12_158 (y := v p0 1) hx hb hj hown hK hP h_49 (((fr_use h_49 f_62 rfl)).trans (((fr_use h_49 f_56 rfl)).trans (((frE_use h_21 f_43 rfl)).trans (((fr_use h_21 f_25 rfl)).trans (frE_use q0 (f_17 []) rfl))))) dX12_lay_39 ?_
  refine lv_iconst (v := iI 1) hx hb dX12_lay_42 rfl ?_
  refine lv_iload_n hx hb dX12_lay_43 rfl (lv_at hl 2 rfl) ?_
  refine lv_ishl hx hb dX12_lay_44 ?_
  refine xr_any (fun z_67 h_68 => ?_)
  refine lv_ior hx hb dX12_lay_45 ?_
  refine xr_any (fun z_69 h_70 => ?_)
  refine px_RX12_158 (y := z_69) hx hb hj hown hK hP hD hS I_65 h_49 ⟨by omega, by omega⟩ dX12_lay_46 (fun v_71 H locs f_72 e_73 o_74 I_75 hP hD hS => ?_)
  refine lv_iconst (v := iI 0) hx hb dX12_lay_49 rfl ?_
  refine lv_istore_n (i := 3) (lv' := [(3, .int (iI 0)), (0, .ref p0.toNat), (1, .ref p1.toNat), (2, .int (iI p2))]) hx hb dX12_lay_50 rfl hl (by decide) rfl (fun ls hl => ?_)
  have L51 : ∀ (n51 : Nat) (a3_51 : Int) (vc51 : Int → Int → Int) (H : Heap) (locs : List Loc) (ls : Array Slot), (0 ≤ a3_51 ∧ a3_51 ≤ 2147483647) → (0 < (n51 : Int) ∧ (v p0 9) - a3_51 < (n51 : Int)) → fr K_40 [(0, 12), (0, 13), (4, 7), (11, 4), (11, 5), (11, 6), (64, (-1))] vc51 v_71 → xI L_39 K_40 N_41 vc51 → va_P (dC, dI) vwCl (xG L_39 cid K_40 N_41 vc51) H → va_D A (xG L_39 cid K_40 N_41 vc51) → va_S A s.heap H locs → lv_has ls 5 [(3, .int (iI a3_51)), (0, .ref p0.toNat), (1, .ref p1.toNat), (2, .int (iI p2))] → W p l e ({ frames := 3, cells := 2, slots := 12060, locals := 102 }) s m ([.ref p0.toNat, .ref p1.toNat, .int (iI p2)] : List Value).toArray below meth c H locs 2 12060 Q (F0 m 51 ls []) := by
    intro n51
    induction n51 with
    | zero =>
      intro a3_51 vc51 H locs ls h_76 hm51 f_77 I_78 hP hD hS hl
      exfalso; omega
    | succ n51 ih51 =>
      intro a3_51 vc51 H locs ls h_79 hm51 f_80 I_81 hP hD hS hl
      refine lv_iload_n hx hb dX12_lay_51 rfl (lv_at hl 0 rfl) ?_
      refine lv_aload_n hx hb dX12_lay_52 rfl (lv_at hl 1 rfl) ?_
      refine gx_RX12_268 (y := v p0 9) hx hb hj hown hK hP h_49 (((fr_use h_49 f_80 rfl)).trans (((fr_use h_49 f_72 rfl)).trans (((fr_use h_49 f_62 rfl)).trans (((fr_use h_49 f_56 rfl)).trans (((frE_use h_21 f_43 rfl)).trans (((fr_use h_21 f_25 rfl)).trans (frE_use q0 (f_17 []) rfl))))))) dX12_lay_53 ?_
      refine xr_icmp_ge (tgt := 139) hx hb dX12_lay_56 (by decide) (by omega) (by omega) (fun h_82 => ?_) (fun h_82 => ?_)
      · have F_83 := frE_fr (W := [(0, 12), (0, 13), (4, 7), (11, 1), (11, 2), (11, 3), (11, 4), (11, 5), (11, 6), (12, 1), (63, (-1)), (64, (-1)), (99, 0)]) (W1 := [(0, 12), (0, 13), (4, 7), (11, 1), (11, 2), (11, 3), (11, 4), (11, 5), (11, 6), (12, 1), (63, (-1)), (64, (-1)), (99, 0)]) E_47 (fr_tr f_80 rfl (fr_tr f_72 rfl (fr_tr f_62 rfl (fr_tr f_56 rfl fr_rf)))) rfl F_48
        rw [← hQ]
        exact W.vret hx hb hr (fun t ht hW => ⟨⟨(L_39, K_40, N_41, vc51), rfl, ⟨I_81, E_47, F_83⟩, by rw [ht]; exact hP, va_K.moved hW.alike hK, hD⟩, hS.F ht⟩) hS.2.2 dX12_lay_139
      · refine lv_aload_n hx hb dX12_lay_59 rfl (lv_at hl 1 rfl) ?_
        refine lv_iload_n hx hb dX12_lay_60 rfl (lv_at hl 0 rfl) ?_
        refine jc_q (va_runV (As := [.int (iI a3_51)]) (rest := []) ⟨hx, hb, hml, hown, hts⟩ (sX12_inRow l dC dI _ L_39 cid K_40 N_41 tW sK sV vc51 p0 a3_51 I_81 h_49 (by omega)) (cwV 1 hts (jgoodV m_1149 m_1150 m_1151 m_873 m_1152) rfl rfl rfl (by decide +kernel) ⟨(Nat.le_of_ble_eq_true rfl), (Nat.le_of_ble_eq_true rfl)⟩) ⟨xP_blind, xrecv hK hP h_49 rfl rfl, fun U hU hW => ⟨rfl, xP_of hU hW hP hK hD hX hS (fun _ h => h) hA⟩⟩ rfl rfl hl.1 rfl (lv_room (Nat.le_of_ble_eq_true rfl)) dX12_lay_61 ⟨(Nat.le_of_ble_eq_true rfl), (Nat.le_of_ble_eq_true rfl)⟩) hP hS hA (fun r_84 H locs w_85 hP hS => ?_)
        obtain ⟨z_86, rfl, h_87⟩ := w_85
        refine jt_q (rv z_86) rfl ?_
        refine xq_astore (i := 4) (lv' := [(4, rv z_86), (3, .int (iI a3_51)), (0, .ref p0.toNat), (1, .ref p1.toNat), (2, .int (iI p2))]) hx hb dX12_lay_64 hl (by decide) rfl (fun ls hl => ?_)
        refine xq_aload hx hb dX12_lay_66 (lv_at hl 0 rfl) ?_
        have J133 : ∀ (vc133 : Int → Int → Int) (H : Heap) (locs : List Loc) (ls : Array Slot), fr K_40 [(0, 12), (0, 13), (4, 7), (11, 4), (11, 5), (11, 6), (64, (-1))] vc133 vc51 → xI L_39 K_40 N_41 vc133 → va_P (dC, dI) vwCl (xG L_39 cid K_40 N_41 vc133) H → va_D A (xG L_39 cid K_40 N_41 vc133) → va_S A s.heap H locs → lv_has ls 5 [(4, rv z_86), (3, .int (iI a3_51)), (0, .ref p0.toNat), (1, .ref p1.toNat), (2, .int (iI p2))] → W p l e ({ frames := 3, cells := 2, slots := 12060, locals := 102 }) s m ([.ref p0.toNat, .ref p1.toNat, .int (iI p2)] : List Value).toArray below meth c H locs 2 12060 Q (F0 m 133 ls []) := by
          intro vc133 H locs ls f_88 I_89 hP hD hS hl
          refine lv_iinc (v := iI (a3_51 + 1)) (lv' := [(3, .int (iI (a3_51 + 1))), (4, rv z_86), (0, .ref p0.toNat), (1, .ref p1.toNat), (2, .int (iI p2))]) hx hb dX12_lay_133 hl (k := 1) rfl (iI_add _ _) (by decide) rfl (fun ls hl => ?_)
          refine lv_goto (tgt := 51) hx hb dX12_lay_136 (by decide) ?_
          exact ih51 (a3_51 + 1) vc133 H locs ls (by omega) (by omega) (fr_tr f_88 rfl (fr_tr f_80 rfl fr_rf)) I_89 hP hD hS (lv_sub hl [0, 2, 3, 4] rfl)
        refine xq_ifnonnull (tgt := 74) hx hb dX12_lay_68 (by decide) (fun h_90 => ?_) (fun h_90 => ?_)
        · have h_91 : ok L_39 K_40 z_86 0 := h_87.resolve_left (by omega)
          refine xq_aload hx hb dX12_lay_74 (lv_at hl 0 rfl) ?_
          refine jt_q (.ref z_86.toNat) (rv_ref (h_91).1) ?_
          refine lv_iload_n hx hb dX12_lay_76 rfl (lv_at hl 4 rfl) ?_
          refine px_RX12_247 (y := p2) hx hb hj hown hK hP hD hS I_81 h_91 ⟨by omega, by omega⟩ dX12_lay_77 (fun v_92 H locs f_93 e_94 o_95 I_96 hP hD hS => ?_)
          refine lv_aload_n hx hb dX12_lay_80 rfl (lv_at hl 2 rfl) ?_
          refine xq_aload hx hb dX12_lay_81 (lv_at hl 0 rfl) ?_
          refine jt_q (.ref z_86.toNat) (rv_ref (h_91).1) ?_
          refine jc_i (va_runV (As := [.ref z_86.toNat]) (rest := []) ⟨hx, hb, hml, hown, hts⟩ (sX12_isStruck l dC dI _ L_39 cid K_40 N_41 tW sK sV v_92 p0 z_86 I_96 h_49 h_91) (cwV 1 hts (jgoodV m_1060 m_1061 m_1062 m_873 m_1063) rfl rfl rfl (by decide +kernel) ⟨(Nat.le_of_ble_eq_true rfl), (Nat.le_of_ble_eq_true rfl)⟩) ⟨xP_blind, xrecv hK hP h_49 rfl rfl, fun U hU hW => ⟨rfl, xP_of hU hW hP hK hD hX hS (fun _ h => h) hA⟩⟩ rfl rfl hl.1 rfl (lv_room (Nat.le_of_ble_eq_true rfl)) dX12_lay_83 ⟨(Nat.le_of_ble_eq_true rfl), (Nat.le_of_ble_eq_true rfl)⟩) hP hS hA (fun r_97 H locs w_98 hP hS => ?_)
          obtain ⟨z_99, rfl, h_100⟩ := w_98
          refine xr_if_eq (tgt := 102) hx hb dX12_lay_86 (by decide) (by omega) (fun h_101 => ?_) (fun h_101 => ?_)
          · refine xq_aload hx hb dX12_lay_102 (lv_at hl 0 rfl) ?_
            refine jt_q (.ref z_86.toNat) (rv_ref (h_91).1) ?_
            refine lv_aload_n hx hb dX12_lay_104 rfl (lv_at hl 3 rfl) ?_
            have h_102 : (-2147483648) ≤ vc51 p1 5 ∧ vc51 p1 5 ≤ 2147483647 := xf_11_5 I_81 h_50
            refine gx_RX12_450 (y := vc51 p1 5) hx hb hj hown hK hP h_50 (fr_use h_50 f_93 rfl) dX12_lay_105 ?_
            refine px_RX12_468 (y := vc51 p1 5) hx hb hj hown hK hP hD hS I_96 h_91 ⟨by omega, by omega⟩ dX12_lay_108 (fun v_103 H locs f_104 e_105 o_106 I_107 hP hD hS => ?_)
            refine lv_aload_n hx hb dX12_lay_111 rfl (lv_at hl 2 rfl) ?_
            refine lv_aload_n hx hb dX12_lay_112 rfl (lv_at hl 3 rfl) ?_
            refine xq_aload hx hb dX12_lay_113 (lv_at hl 0 rfl) ?_
            refine jt_q (.ref z_86.toNat) (rv_ref (h_91).1) ?_
            refine jcg_v (va_runV (As := [.ref p1.toNat, .ref z_86.toNat]) (rest := []) ⟨hx, hb, hml, hown, hts⟩ (sX12_layLines l dC dI _ L_39 cid K_40 N_41 tW sK sV v_103 p0 p1 z_86 I_107 h_49 h_50 h_91) (cwV 2 hts (jgoodV m_1399 m_1400 m_1401 m_873 m_1402) rfl rfl rfl (by decide +kernel) ⟨(Nat.le_of_ble_eq_true rfl), (Nat.le_of_ble_eq_true rfl)⟩) ⟨xP_blind, xrecv hK hP h_49 rfl rfl, fun U hU hW => ⟨rfl, xP_of hU hW hP hK hD hX hS (fun _ h => h) hA⟩⟩ rfl rfl hl.1 rfl (lv_room (Nat.le_of_ble_eq_true rfl)) dX12_lay_115 ⟨(Nat.le_of_ble_eq_true rfl), (Nat.le_of_ble_eq_true rfl)⟩) hD hS hA (fun v_111 H locs w_109 hP hK hD hS => ?_)
            obtain ⟨I_113, f_112⟩ := w_109
            have hP : va_P (dC, dI) vwCl (xG L_39 cid K_40 N_41 v_111) H := hP
            have hD : va_D A (xG L_39 cid K_40 N_41 v_111) := hD
            refine lv_aload_n hx hb dX12_lay_118 rfl (lv_at hl 3 rfl) ?_
            refine lv_dup hx hb dX12_lay_119 rfl ?_
            refine gx_RX12_450 (y := vc51 p1 5) hx hb hj hown hK hP h_50 (((fr_use h_50 f_112 rfl)).trans (((fr_use h_50 f_104 rfl)).trans (fr_use h_50 f_93 rfl))) dX12_lay_120 ?_
            refine lv_aload_n hx hb dX12_lay_123 rfl (lv_at hl 2 rfl) ?_
            refine xq_aload hx hb dX12_lay_124 (lv_at hl 0 rfl) ?_
            refine jt_q (.ref z_86.toNat) (rv_ref (h_91).1) ?_
            refine jc_i (va_runV (As := [.ref z_86.toNat]) (rest := [.int (iI (vc51 p1 5)), .ref p1.toNat]) ⟨hx, hb, hml, hown, hts⟩ (sX12_takenLines l dC dI _ L_39 cid K_40 N_41 tW sK sV v_111 p0 z_86 I_113 h_49 h_91) (cwV 1 hts (jgoodV m_1191 m_1192 m_1193 m_873 m_1194) rfl rfl rfl (by decide +kernel) ⟨(Nat.le_of_ble_eq_true rfl), (Nat.le_of_ble_eq_true rfl)⟩) ⟨xP_blind, xrecv hK hP h_49 rfl rfl, fun U hU hW => ⟨rfl, xP_of hU hW hP hK hD hX hS (fun _ h => h) hA⟩⟩ rfl rfl hl.1 rfl (lv_room (Nat.le_of_ble_eq_true rfl)) dX12_lay_126 ⟨(Nat.le_of_ble_eq_true rfl), (Nat.le_of_ble_eq_true rfl)⟩) hP hS hA (fun r_114 H locs w_115 hP hS => ?_)
            obtain ⟨z_116, rfl, h_117⟩ := w_115
            refine xr_add hx hb dX12_lay_129 ?_
            refine xr_kept (fun z_118 h_119 h_120 => ?_)
            refine px_RX12_450 (y := z_118) hx hb hj hown hK hP hD hS I_113 h_50 ⟨by omega, by omega⟩ dX12_lay_130 (fun v_121 H locs f_122 e_123 o_124 I_125 hP hD hS => ?_)
            exact J133 v_121 H locs ls (fr_tr f_122 rfl (fr_tr f_112 rfl (fr_tr f_104 rfl (fr_tr f_93 rfl fr_rf)))) I_125 hP hD hS hl
          · refine lv_aload_n hx hb dX12_lay_89 rfl (lv_at hl 3 rfl) ?_
            refine lv_dup hx hb dX12_lay_90 rfl ?_
            have h_126 : (-2147483648) ≤ vc51 p1 6 ∧ vc51 p1 6 ≤ 2147483647 := xf_11_6 I_81 h_50
            refine gx_RX12_465 (y := vc51 p1 6) hx hb hj hown hK hP h_50 (fr_use h_50 f_93 rfl) dX12_lay_91 ?_
            refine lv_iconst (v := iI 1) hx hb dX12_lay_94 rfl ?_
            refine xr_add hx hb dX12_lay_95 ?_
            refine xr_kept (fun z_127 h_128 h_129 => ?_)
            refine px_RX12_465 (y := z_127) hx hb hj hown hK hP hD hS I_96 h_50 ⟨by omega, by omega⟩ dX12_lay_96 (fun v_130 H locs f_131 e_132 o_133 I_134 hP hD hS => ?_)
            refine lv_goto (tgt := 133) hx hb dX12_lay_99 (by decide) ?_
            exact J133 v_130 H locs ls (fr_tr f_131 rfl (fr_tr f_93 rfl fr_rf)) I_134 hP hD hS hl
        · refine lv_goto (tgt := 133) hx hb dX12_lay_71 (by decide) ?_
          exact J133 vc51 H locs ls fr_rf I_81 hP hD hS hl
  exact L51 ((((v p0 9) - 0 : Int)).toNat + 1) 0 v_71 H locs ls (by omega) (by omega) fr_rf I_75 hP hD hS hl
