set_option maxHeartbeats 2000000 in
set_option maxRecDepth 100000 in
theorem sX12_enemies (l : Launch) (dC : Nat → ClassId) (dI : Nat → Nat → Nat) (sz : Nat) (L : List Nat) (cid : Nat → ClassId) (K : Int → Nat) (N : Int → Int) (tW : Nat) (sK sV : Nat → Nat) (v : Int → Int → Int) (p0 : Int) (p1 : Int) (p2 : Int) (hI : xI L K N v) (q0 : ok L K p0 12) (q1 : rg p1) (q2 : rg p2) : Met l yX12_enemies (jk yX12_enemies cX12_enemies 5 (some .boolean)) ({ frames := 1, cells := 0, slots := 0, locals := 21 }) (va_Pc [.ref p0.toNat, .int (iI p1), .int (iI p2)] (xP (dC, dI) (xG L cid K N v) (xT cid) tW sK sV sz)) (va_Qi (fun (r : Int32) (u : (Int → Int → Int)) => ∃ z : Int, r = iI z ∧ (xI L K N u) ∧ (fr K [(2, 4)] u v) ∧ (0 ≤ z ∧ z ≤ 1) ∧ ((z = 0) ∨ (z = 1 ∧ 0 ≤ p1 ∧ p1 < v p0 11 ∧ 0 ≤ p2 ∧ p2 < v p0 11 ∧ 0 ≤ v (v p0 10) p1 ∧ 0 ≤ v (v p0 10) p2 ∧ p1 ≠ p2)) ∧ (z = 1 → zand (zshr (v (v (v p0 10) p1) 4) p2) 1 = 0) ∧ (z = 0 → (p1 < 0 ∨ v p0 11 ≤ p1 ∨ p2 < 0 ∨ v p0 11 ≤ p2 ∨ v (v p0 10) p1 < 0 ∨ v (v p0 10) p2 < 0 ∨ p1 = p2 ∨ zand (zshr (v (v (v p0 10) p1) 4) p2) 1 ≠ 0)) ∧ (z = 0 → u = v) ∧ (z = 1 → u = vu (vu v (v (v p0 10) p1) 4 (zor (v (v (v p0 10) p1) 4) (zshl 1 p2))) (v (v p0 10) p2) 4 (zor ((vu v (v (v p0 10) p1) 4 (zor (v (v (v p0 10) p1) 4) (zshl 1 p2))) (v (v p0 10) p2) 4) (zshl 1 p1)))) (fun u t => va_P (dC, dI) vwCl (xG L cid K N u) t.heap ∧ va_K (dC, dI) vwCl (xT cid) t ∧ va_D (va_A (xG L cid K N v) sz) (xG L cid K N u)) (va_A (xG L cid K N v) sz)) 0 0 (va_A (xG L cid K N v) sz) := by
  refine Met.ofW (cc := cX12_enemies) (maxL := 5) (ret := (some .boolean)) (by decide) rfl ?_
  intro p e s m args below meth c s₁ B hml hv
  obtain ⟨rfl, ⟨hsz, hP, hK, hD0⟩, hX⟩ := hv
  have hx := B.exec
  have hb := B.bytes
  have hr := B.returns
  have hts := atoms_spec (ws := (jk yX12_enemies cX12_enemies 5 (some .boolean))) B.pre
  have hj : ∀ w ∈ jw, w.before ([.ref p0.toNat, .int (iI p1), .int (iI p2)] : List Value).toArray s = true := fun w h => hts w (jm h)
  have hown : s.vm.findClass RX12 = some m.cls := findClass_of_methodNamed B.named
  subst hsz
  have hD := hD0.self (sz := s.heap.size)
  generalize hAe : (va_A (xG L cid K N v) s.heap.size) = A at hD hX ⊢
  have hA : ∀ q : Nat, s.heap.size ≤ q → A q := fun q h => by rw [← hAe]; exact Or.inr h
  have hS : va_S A s.heap s.heap [] := va_S.rf
  have hXa := hX
  have hP : va_P (dC, dI) vwCl (xG L cid K N v) s.heap := hP
  have hl := lv_entry ([.ref p0.toNat, .int (iI p1), .int (iI p2)]) (n := 5) (Nat.le_of_ble_eq_true rfl)
  rw [lg_entry_eq]
  generalize (lg_sl ([.ref p0.toNat, .int (iI p1), .int (iI p2)]) ++ List.replicate (5 - (lg_sl ([.ref p0.toNat, .int (iI p1), .int (iI p2)])).length) Slot.unset).toArray = ls at hl ⊢
  have hl : lv_has ls 5 [(0, .ref p0.toNat), (1, .int (iI p1)), (2, .int (iI p2))] := hl
  generalize hQ : MQ below (va_Qi (fun (r : Int32) (u : (Int → Int → Int)) => ∃ z : Int, r = iI z ∧ (xI L K N u) ∧ (fr K [(2, 4)] u v) ∧ (0 ≤ z ∧ z ≤ 1) ∧ ((z = 0) ∨ (z = 1 ∧ 0 ≤ p1 ∧ p1 < v p0 11 ∧ 0 ≤ p2 ∧ p2 < v p0 11 ∧ 0 ≤ v (v p0 10) p1 ∧ 0 ≤ v (v p0 10) p2 ∧ p1 ≠ p2)) ∧ (z = 1 → zand (zshr (v (v (v p0 10) p1) 4) p2) 1 = 0) ∧ (z = 0 → (p1 < 0 ∨ v p0 11 ≤ p1 ∨ p2 < 0 ∨ v p0 11 ≤ p2 ∨ v (v p0 10) p1 < 0 ∨ v (v p0 10) p2 < 0 ∨ p1 = p2 ∨ zand (zshr (v (v (v p0 10) p1) 4) p2) 1 ≠ 0)) ∧ (z = 0 → u = v) ∧ (z = 1 → u = vu (vu v (v (v p0 10) p1) 4 (zor (v (v (v p0 10) p1) 4) (zshl 1 p2))) (v (v p0 10) p2) 4 (zor ((vu v (v (v p0 10) p1) 4 (zor (v (v (v p0 10) p1) 4) (zshl 1 p2))) (v (v p0 10) p2) 4) (zshl 1 p1)))) (fun u t => va_P (dC, dI) vwCl (xG L cid K N u) t.heap ∧ va_K (dC, dI) vwCl (xT cid) t ∧ va_D A (xG L cid K N u)) A) ([.ref p0.toNat, .int (iI p1), .int (iI p2)] : List Value).toArray s 0 0 A = Q
  suffices ST : ∀ (H : Heap) (locs : List Loc), va_P (dC, dI) vwCl (xG L cid K N v) H → va_S A s.heap H locs → W p l e ({ frames := 1, cells := 0, slots := 0, locals := 21 }) s m ([.ref p0.toNat, .int (iI p1), .int (iI p2)] : List Value).toArray below meth c H locs 0 0 Q (F0 m 0 ls []) from ST _ _ hP hS
  clear hP hS
  intro H locs hP hS
  refine lv_aload_n hx hb dX12_enemies_0 rfl (lv_at hl 0 rfl) ?_
  refine lv_iload_n hx hb dX12_enemies_1 rfl (lv_at hl 1 rfl) ?_
  refine jc_q (va_runV (As := [.int (iI p1)]) (rest := []) ⟨hx, hb, hml, hown, hts⟩ (sX12_handAt l dC dI _ L cid K N tW sK sV v p0 p1 hI q0 (by omega)) (cwV 1 hts (jgoodV m_1056 m_1057 m_1058 m_873 m_1059) rfl rfl rfl (by decide +kernel) ⟨(Nat.le_of_ble_eq_true rfl), (Nat.le_of_ble_eq_true rfl)⟩) ⟨xP_blind, xrecv hK hP q0 rfl rfl, fun U hU hW => ⟨rfl, xP_of hU hW hP hK hD hX hS (fun _ h => h) hA⟩⟩ rfl rfl hl.1 rfl (lv_room (Nat.le_of_ble_eq_true rfl)) dX12_enemies_2 ⟨(Nat.le_of_ble_eq_true rfl), (Nat.le_of_ble_eq_true rfl)⟩) hP hS hA (fun r_1 H locs w_2 hP hS => ?_)
  obtain ⟨z_3, rfl, h_4, h_5⟩ := w_2
  have h_6 : 0 ≤ v p0 11 ∧ v p0 11 ≤ 12 := xf_12_11 hI q0
  have h_7 : ok L K (v p0 10) 38 := xf_12_10 hI q0
  have h_8 : N (v p0 10) = 12 := xn_38 hI h_7
  refine jt_q (rv z_3) rfl ?_
  refine xq_astore_n (i := 3) (lv' := [(3, rv z_3), (0, .ref p0.toNat), (1, .int (iI p1)), (2, .int (iI p2))]) hx hb dX12_enemies_5 rfl hl (by decide) rfl (fun ls hl => ?_)
  refine lv_aload_n hx hb dX12_enemies_6 rfl (lv_at hl 1 rfl) ?_
  refine lv_iload_n hx hb dX12_enemies_7 rfl (lv_at hl 3 rfl) ?_
  refine jc_q (va_runV (As := [.int (iI p2)]) (rest := []) ⟨hx, hb, hml, hown, hts⟩ (sX12_handAt l dC dI _ L cid K N tW sK sV v p0 p2 hI q0 (by omega)) (cwV 1 hts (jgoodV m_1056 m_1057 m_1058 m_873 m_1059) rfl rfl rfl (by decide +kernel) ⟨(Nat.le_of_ble_eq_true rfl), (Nat.le_of_ble_eq_true rfl)⟩) ⟨xP_blind, xrecv hK hP q0 rfl rfl, fun U hU hW => ⟨rfl, xP_of hU hW hP hK hD hX hS (fun _ h => h) hA⟩⟩ rfl rfl hl.1 rfl (lv_room (Nat.le_of_ble_eq_true rfl)) dX12_enemies_8 ⟨(Nat.le_of_ble_eq_true rfl), (Nat.le_of_ble_eq_true rfl)⟩) hP hS hA (fun r_9 H locs w_10 hP hS => ?_)
  obtain ⟨z_11, rfl, h_12, h_13⟩ := w_10
  refine jt_q (rv z_11) rfl ?_
  refine xq_astore (i := 4) (lv' := [(4, rv z_11), (3, rv z_3), (0, .ref p0.toNat), (1, .int (iI p1)), (2, .int (iI p2))]) hx hb dX12_enemies_11 hl (by decide) (by simp [rv_cat]) (fun ls hl => ?_)
  refine xq_aload_n hx hb dX12_enemies_13 rfl (lv_at hl 1 rfl) ?_
  refine xq_ifnull (tgt := 38) hx hb dX12_enemies_14 (by decide) (fun h_14 => ?_) (fun h_14 => ?_)
  · refine lv_iconst (v := iI 0) hx hb dX12_enemies_38 rfl ?_
    rw [← hQ]
    exact W.zret (v := iI 0) (ty := .boolean) hx hb hr (nb_bool (by omega) (by omega)) (fun t ht hW => ⟨⟨iI 0, v, rfl, ⟨0, rfl, hI, fr_rf, by omega, by omega, by intro hz9; first | (exfalso; omega) | (rw [← show z_3 = v (v p0 10) p1 by omega]; omega), by intro hz9; first | omega | (rw [← show z_3 = v (v p0 10) p1 by omega]; omega), by intro hz9; first | (exfalso; omega) | (rfl), by intro hz9; first | (exfalso; omega) | (rw [← show z_3 = v (v p0 10) p1 by omega, ← show z_11 = v (v p0 10) p2 by omega]; rfl)⟩, by rw [ht]; exact hP, va_K.moved hW.alike hK, hD⟩, hS.F ht⟩) hS.2.2 dX12_enemies_39
  · have h_15 : ok L K z_3 2 := h_4.resolve_left (by omega)
    refine xq_aload hx hb dX12_enemies_17 (lv_at hl 0 rfl) ?_
    refine xq_ifnull (tgt := 38) hx hb dX12_enemies_19 (by decide) (fun h_16 => ?_) (fun h_16 => ?_)
    · refine lv_iconst (v := iI 0) hx hb dX12_enemies_38 rfl ?_
      rw [← hQ]
      exact W.zret (v := iI 0) (ty := .boolean) hx hb hr (nb_bool (by omega) (by omega)) (fun t ht hW => ⟨⟨iI 0, v, rfl, ⟨0, rfl, hI, fr_rf, by omega, by omega, by intro hz9; first | (exfalso; omega) | (rw [← show z_3 = v (v p0 10) p1 by omega]; omega), by intro hz9; first | omega | (rw [← show z_3 = v (v p0 10) p1 by omega]; omega), by intro hz9; first | (exfalso; omega) | (rfl), by intro hz9; first | (exfalso; omega) | (rw [← show z_3 = v (v p0 10) p1 by omega, ← show z_11 = v (v p0 10) p2 by omega]; rfl)⟩, by rw [ht]; exact hP, va_K.moved hW.alike hK, hD⟩, hS.F ht⟩) hS.2.2 dX12_enemies_39
    · have h_17 : ok L K z_11 2 := h_12.resolve_left (by omega)
      refine lv_iload_n hx hb dX12_enemies_22 rfl (lv_at hl 3 rfl) ?_
      refine lv_iload_n hx hb dX12_enemies_23 rfl (lv_at hl 4 rfl) ?_
      refine xr_icmp_eq (tgt := 38) hx hb dX12_enemies_24 (by decide) (by omega) (by omega) (fun h_18 => ?_) (fun h_18 => ?_)
      · refine lv_iconst (v := iI 0) hx hb dX12_enemies_38 rfl ?_
        rw [← hQ]
        exact W.zret (v := iI 0) (ty := .boolean) hx hb hr (nb_bool (by omega) (by omega)) (fun t ht hW => ⟨⟨iI 0, v, rfl, ⟨0, rfl, hI, fr_rf, by omega, by omega, by intro hz9; first | (exfalso; omega) | (rw [← show z_3 = v (v p0 10) p1 by omega]; omega), by intro hz9; first | omega | (rw [← show z_3 = v (v p0 10) p1 by omega]; omega), by intro hz9; first | (exfalso; omega) | (rfl), by intro hz9; first | (exfalso; omega) | (rw [← show z_3 = v (v p0 10) p1 by omega, ← show z_11 = v (v p0 10) p2 by omega]; rfl)⟩, by rw [ht]; exact hP, va_K.moved hW.alike hK, hD⟩, hS.F ht⟩) hS.2.2 dX12_enemies_39
      · refine xq_aload_n hx hb dX12_enemies_27 rfl (lv_at hl 1 rfl) ?_
        refine jt_q (.ref z_3.toNat) (rv_ref (h_15).1) ?_
        have h_19 : (-2147483648) ≤ v z_3 4 ∧ v z_3 4 ≤ 2147483647 := xf_2_4 hI h_15
        refine gx_RX12_303 (y := v z_3 4) hx hb hj hown hK hP h_15 rfl dX12_enemies_28 ?_
        refine lv_iload_n hx hb dX12_enemies_31 rfl (lv_at hl 4 rfl) ?_
        refine lv_ishr hx hb dX12_enemies_32 ?_
        refine jt_i (iI (zshr (v z_3 4) p2)) (iI_of _) ?_
        have h_20 : rg (zshr (v z_3 4) p2) := rg_of _
        refine lv_iconst (v := iI 1) hx hb dX12_enemies_33 rfl ?_
        refine lv_iand hx hb dX12_enemies_34 ?_
        refine jt_i (iI (zand (zshr (v z_3 4) p2) 1)) (iI_of _) ?_
        have h_21 : rg (zand (zshr (v z_3 4) p2) 1) := rg_of _
        have h_22 : 0 ≤ zand (zshr (v z_3 4) p2) 1 ∧ zand (zshr (v z_3 4) p2) 1 ≤ 1 := zand_1 _
        refine xr_if_eq (tgt := 40) hx hb dX12_enemies_35 (by decide) (by omega) (fun h_23 => ?_) (fun h_23 => ?_)
        · refine xq_aload_n hx hb dX12_enemies_40 rfl (lv_at hl 1 rfl) ?_
          refine jt_q (.ref z_3.toNat) (rv_ref (h_15).1) ?_
          refine lv_dup hx hb dX12_enemies_41 rfl ?_
          refine gx_RX12_303 (y := v z_3 4) hx hb hj hown hK hP h_15 rfl dX12_enemies_42 ?_
          refine lv_iconst (v := iI 1) hx hb dX12_enemies_45 rfl ?_
          refine lv_iload_n hx hb dX12_enemies_46 rfl (lv_at hl 4 rfl) ?_
          refine lv_ishl hx hb dX12_enemies_47 ?_
          refine jt_i (iI (zshl 1 p2)) (iI_of _) ?_
          have h_24 : rg (zshl 1 p2) := rg_of _
          refine lv_ior hx hb dX12_enemies_48 ?_
          refine jt_i (iI (zor (v z_3 4) (zshl 1 p2))) (iI_of _) ?_
          have h_25 : rg (zor (v z_3 4) (zshl 1 p2)) := rg_of _
          refine px_RX12_303 (y := zor (v z_3 4) (zshl 1 p2)) hx hb hj hown hK hP hD hS hI h_15 ⟨by omega, by omega⟩ dX12_enemies_49 (fun v_26 H locs f_27 e_28 o_29 I_30 hP hD hS => ?_)
          refine xq_aload hx hb dX12_enemies_52 (lv_at hl 0 rfl) ?_
          refine jt_q (.ref z_11.toNat) (rv_ref (h_17).1) ?_
          refine lv_dup hx hb dX12_enemies_54 rfl ?_
          have h_31 : (-2147483648) ≤ v_26 z_11 4 ∧ v_26 z_11 4 ≤ 2147483647 := xf_2_4 I_30 h_17
          refine gx_RX12_303 (y := v_26 z_11 4) hx hb hj hown hK hP h_17 rfl dX12_enemies_55 ?_
          refine lv_iconst (v := iI 1) hx hb dX12_enemies_58 rfl ?_
          refine lv_iload_n hx hb dX12_enemies_59 rfl (lv_at hl 3 rfl) ?_
          refine lv_ishl hx hb dX12_enemies_60 ?_
          refine jt_i (iI (zshl 1 p1)) (iI_of _) ?_
          have h_32 : rg (zshl 1 p1) := rg_of _
          refine lv_ior hx hb dX12_enemies_61 ?_
          refine jt_i (iI (zor (v_26 z_11 4) (zshl 1 p1))) (iI_of _) ?_
          have h_33 : rg (zor (v_26 z_11 4) (zshl 1 p1)) := rg_of _
          refine px_RX12_303 (y := zor (v_26 z_11 4) (zshl 1 p1)) hx hb hj hown hK hP hD hS I_30 h_17 ⟨by omega, by omega⟩ dX12_enemies_62 (fun v_34 H locs f_35 e_36 o_37 I_38 hP hD hS => ?_)
          refine lv_iconst (v := iI 1) hx hb dX12_enemies_65 rfl ?_
          rw [← hQ]
          exact W.zret (v := iI 1) (ty := .boolean) hx hb hr (nb_bool (by omega) (by omega)) (fun t ht hW => ⟨⟨iI 1, v_34, rfl, ⟨1, rfl, I_38, (fr_tr f_35 rfl (fr_tr f_27 rfl fr_rf)), by omega, by omega, by intro hz9; first | (exfalso; omega) | (rw [← show z_3 = v (v p0 10) p1 by omega]; omega), by intro hz9; first | omega | (rw [← show z_3 = v (v p0 10) p1 by omega]; omega), by intro hz9; first | (exfalso; omega) | (rw [vu_of e_36 o_37]; rw [vu_of e_28 o_29]), by intro hz9; first | (exfalso; omega) | (rw [← show z_3 = v (v p0 10) p1 by omega, ← show z_11 = v (v p0 10) p2 by omega]; rw [vu_of e_36 o_37]; rw [vu_of e_28 o_29])⟩, by rw [ht]; exact hP, va_K.moved hW.alike hK, hD⟩, hS.F ht⟩) hS.2.2 dX12_enemies_66
        · refine lv_iconst (v := iI 0) hx hb dX12_enemies_38 rfl ?_
          rw [← hQ]
          exact W.zret (v := iI 0) (ty := .boolean) hx hb hr (nb_bool (by omega) (by omega)) (fun t ht hW => ⟨⟨iI 0, v, rfl, ⟨0, rfl, hI, fr_rf, by omega, by omega, by intro hz9; first | (exfalso; omega) | (rw [← show z_3 = v (v p0 10) p1 by omega]; omega), by intro hz9; first | omega | (rw [← show z_3 = v (v p0 10) p1 by omega]; omega), by intro hz9; first | (exfalso; omega) | (rfl), by intro hz9; first | (exfalso; omega) | (rw [← show z_3 = v (v p0 10) p1 by omega, ← show z_11 = v (v p0 10) p2 by omega]; rfl)⟩, by rw [ht]; exact hP, va_K.moved hW.alike hK, hD⟩, hS.F ht⟩) hS.2.2 dX12_enemies_39
set_option maxHeartbeats 2000000 in
set_option maxRecDepth 100000 in
theorem sX12_pointersTo (l : Launch) (dC : Nat → ClassId) (dI : Nat → Nat → Nat) (sz : Nat) (L : List Nat) (cid : Nat → ClassId) (K : Int → Nat) (N : Int → Int) (tW : Nat) (sK sV : Nat → Nat) (v : Int → Int → Int) (p0 : Int) (p1 : Int) (hI : xI L K N v) (q0 : ok L K p0 12) (q1 : rg p1) : Met l yX12_pointersTo (jk yX12_pointersTo cX12_pointersTo 5 (some .int)) ({ frames := 1, cells := 0, slots := 0, locals := 21 }) (va_Pc [.ref p0.toNat, .int (iI p1)] (xP (dC, dI) (xG L cid K N v) (xT cid) tW sK sV sz)) (va_Qi (fun (r : Int32) (_ : Unit) => ∃ z : Int, r = iI z ∧ (rg z)) (fun _ _ => True) (va_A [] sz)) 0 0 (va_A [] sz) := by
  sorry
set_option maxHeartbeats 2000000 in
set_option maxRecDepth 100000 in
theorem sX12_unfinished (l : Launch) (dC : Nat → ClassId) (dI : Nat → Nat → Nat) (sz : Nat) (L : List Nat) (cid : Nat → ClassId) (K : Int → Nat) (N : Int → Int) (tW : Nat) (sK sV : Nat → Nat) (v : Int → Int → Int) (p0 : Int) (p1 : Int) (hI : xI L K N v) (q0 : ok L K p0 12) (q1 : rg p1) : Met l yX12_unfinished (jk yX12_unfinished cX12_unfinished 5 (some .int)) ({ frames := 1, cells := 0, slots := 0, locals := 21 }) (va_Pc [.ref p0.toNat, .int (iI p1)] (xP (dC, dI) (xG L cid K N v) (xT cid) tW sK sV sz)) (va_Qi (fun (r : Int32) (_ : Unit) => ∃ z : Int, r = iI z ∧ (rg z)) (fun _ _ => True) (va_A [] sz)) 0 0 (va_A [] sz) := by
  sorry
set_option maxHeartbeats 2000000 in
set_option maxRecDepth 100000 in
theorem sX12_ask (l : Launch) (dC : Nat → ClassId) (dI : Nat → Nat → Nat) (sz : Nat) (L : List Nat) (cid : Nat → ClassId) (K : Int → Nat) (N : Int → Int) (tW : Nat) (sK sV : Nat → Nat) (v : Int → Int → Int) (p0 : Int) (p1 : Int) (p2 : Int) (p3 : Int) (hI : xI L K N v) (q0 : ok L K p0 12) (q1 : ok L K p1 0) (q2 : rg p2) (q3 : rg p3) : Met l yX12_ask (jk yX12_ask cX12_ask 5 none) ({ frames := 2, cells := 0, slots := 0, locals := 45 }) (va_Pc [.ref p0.toNat, .ref p1.toNat, .int (iI p2), .int (iI p3)] (xP (dC, dI) (xG L cid K N v) (xT cid) tW sK sV sz)) (va_Qv (fun (u : (Int → Int → Int)) => (xI L K N u) ∧ (fr K [(33, (-1))] u v)) (fun u t => va_P (dC, dI) vwCl (xG L cid K N u) t.heap ∧ va_K (dC, dI) vwCl (xT cid) t ∧ va_D (va_A (xG L cid K N v) sz) (xG L cid K N u)) (va_A (xG L cid K N v) sz)) 0 0 (va_A (xG L cid K N v) sz) := by
  refine Met.ofW (cc := cX12_ask) (maxL := 5) (ret := none) (by decide) rfl ?_
  intro p e s m args below meth c s₁ B hml hv
  obtain ⟨rfl, ⟨hsz, hP, hK, hD0⟩, hX⟩ := hv
  have hx := B.exec
  have hb := B.bytes
  have hr := B.returns
  have hts := atoms_spec (ws := (jk yX12_ask cX12_ask 5 none)) B.pre
  have hj : ∀ w ∈ jw, w.before ([.ref p0.toNat, .ref p1.toNat, .int (iI p2), .int (iI p3)] : List Value).toArray s = true := fun w h => hts w (jm h)
  have hown : s.vm.findClass RX12 = some m.cls := findClass_of_methodNamed B.named
  subst hsz
  have hD := hD0.self (sz := s.heap.size)
  generalize hAe : (va_A (xG L cid K N v) s.heap.size) = A at hD hX ⊢
  have hA : ∀ q : Nat, s.heap.size ≤ q → A q := fun q h => by rw [← hAe]; exact Or.inr h
  have hS : va_S A s.heap s.heap [] := va_S.rf
  have hXa := hX
  have hP : va_P (dC, dI) vwCl (xG L cid K N v) s.heap := hP
  have hl := lv_entry ([.ref p0.toNat, .ref p1.toNat, .int (iI p2), .int (iI p3)]) (n := 5) (Nat.le_of_ble_eq_true rfl)
  rw [lg_entry_eq]
  generalize (lg_sl ([.ref p0.toNat, .ref p1.toNat, .int (iI p2), .int (iI p3)]) ++ List.replicate (5 - (lg_sl ([.ref p0.toNat, .ref p1.toNat, .int (iI p2), .int (iI p3)])).length) Slot.unset).toArray = ls at hl ⊢
  have hl : lv_has ls 5 [(0, .ref p0.toNat), (1, .ref p1.toNat), (2, .int (iI p2)), (3, .int (iI p3))] := hl
  generalize hQ : MQ below (va_Qv (fun (u : (Int → Int → Int)) => (xI L K N u) ∧ (fr K [(33, (-1))] u v)) (fun u t => va_P (dC, dI) vwCl (xG L cid K N u) t.heap ∧ va_K (dC, dI) vwCl (xT cid) t ∧ va_D A (xG L cid K N u)) A) ([.ref p0.toNat, .ref p1.toNat, .int (iI p2), .int (iI p3)] : List Value).toArray s 0 0 A = Q
  suffices ST : ∀ (H : Heap) (locs : List Loc), va_P (dC, dI) vwCl (xG L cid K N v) H → va_S A s.heap H locs → W p l e ({ frames := 2, cells := 0, slots := 0, locals := 45 }) s m ([.ref p0.toNat, .ref p1.toNat, .int (iI p2), .int (iI p3)] : List Value).toArray below meth c H locs 0 0 Q (F0 m 0 ls []) from ST _ _ hP hS
  clear hP hS
  intro H locs hP hS
  refine lv_aload_n hx hb dX12_ask_0 rfl (lv_at hl 0 rfl) ?_
  refine lv_iload_n hx hb dX12_ask_1 rfl (lv_at hl 3 rfl) ?_
  refine jc_q (va_runV (As := [.int (iI p3)]) (rest := []) ⟨hx, hb, hml, hown, hts⟩ (sX12_handAt l dC dI _ L cid K N tW sK sV v p0 p3 hI q0 (by omega)) (cwV 1 hts (jgoodV m_1056 m_1057 m_1058 m_873 m_1059) rfl rfl rfl (by decide +kernel) ⟨(Nat.le_of_ble_eq_true rfl), (Nat.le_of_ble_eq_true rfl)⟩) ⟨xP_blind, xrecv hK hP q0 rfl rfl, fun U hU hW => ⟨rfl, xP_of hU hW hP hK hD hX hS (fun _ h => h) hA⟩⟩ rfl rfl hl.1 rfl (lv_room (Nat.le_of_ble_eq_true rfl)) dX12_ask_2 ⟨(Nat.le_of_ble_eq_true rfl), (Nat.le_of_ble_eq_true rfl)⟩) hP hS hA (fun r_1 H locs w_2 hP hS => ?_)
  obtain ⟨z_3, rfl, h_4, h_5⟩ := w_2
  have h_6 : 0 ≤ v p0 11 ∧ v p0 11 ≤ 12 := xf_12_11 hI q0
  have h_7 : ok L K (v p0 10) 38 := xf_12_10 hI q0
  have h_8 : N (v p0 10) = 12 := xn_38 hI h_7
  refine jt_q (rv z_3) rfl ?_
  refine xq_astore (i := 4) (lv' := [(4, rv z_3), (0, .ref p0.toNat), (1, .ref p1.toNat), (2, .int (iI p2)), (3, .int (iI p3))]) hx hb dX12_ask_5 hl (by decide) rfl (fun ls hl => ?_)
  refine lv_aload_n hx hb dX12_ask_7 rfl (lv_at hl 1 rfl) ?_
  have h_9 : ok L K (v p0 3) 8 := xf_12_3 hI q0
  refine gx_RX12_19 (y := v p0 3) hx hb hj hown hK hP q0 ((xf_12_3 hI q0).1) rfl dX12_ask_8 ?_
  refine lv_iconst (v := iI 0) hx hb dX12_ask_11 rfl ?_
  refine lv_aload_n hx hb dX12_ask_12 rfl (lv_at hl 2 rfl) ?_
  have h_10 : 0 ≤ v p1 9 ∧ v p1 9 ≤ 200 := xf_0_9 hI q1
  refine gx_RX12_183 (y := v p1 9) hx hb hj hown hK hP q1 rfl dX12_ask_13 ?_
  refine jcg_v (va_runV (As := [.int (iI 0), .int (iI (v p1 9))]) (rest := []) ⟨hx, hb, hml, hown, hts⟩ (sX8_name l dC dI _ L cid K N tW sK sV v (v p0 3) 0 (v p1 9) hI h_9 (by omega) (by omega)) (cwV 2 hts (jgoodV m_1068 m_1069 m_1070 m_928 m_1071) rfl rfl rfl (by decide +kernel) ⟨(Nat.le_of_ble_eq_true rfl), (Nat.le_of_ble_eq_true rfl)⟩) ⟨xP_blind, xrecv hK hP h_9 rfl rfl, fun U hU hW => ⟨rfl, xP_of hU hW hP hK hD hX hS (fun _ h => h) hA⟩⟩ rfl rfl hl.1 rfl (lv_room (Nat.le_of_ble_eq_true rfl)) dX12_ask_16 ⟨(Nat.le_of_ble_eq_true rfl), (Nat.le_of_ble_eq_true rfl)⟩) hD hS hA (fun v_14 H locs w_12 hP hK hD hS => ?_)
  obtain ⟨I_16, f_15⟩ := w_12
  have hP : va_P (dC, dI) vwCl (xG L cid K N v_14) H := hP
  have hD : va_D A (xG L cid K N v_14) := hD
  refine lv_aload_n hx hb dX12_ask_19 rfl (lv_at hl 1 rfl) ?_
  refine gx_RX12_19 (y := v p0 3) hx hb hj hown hK hP q0 ((xf_12_3 I_16 q0).1) (fr_use q0 f_15 rfl) dX12_ask_20 ?_
  refine lv_iconst (v := iI 1) hx hb dX12_ask_23 rfl ?_
  refine lv_aload_n hx hb dX12_ask_24 rfl (lv_at hl 2 rfl) ?_
  have h_17 : 0 ≤ v p1 15 ∧ v p1 15 ≤ 200 := xf_0_15 hI q1
  refine gx_RX12_342 (y := v p1 15) hx hb hj hown hK hP q1 (fr_use q1 f_15 rfl) dX12_ask_25 ?_
  refine jcg_v (va_runV (As := [.int (iI 1), .int (iI (v p1 15))]) (rest := []) ⟨hx, hb, hml, hown, hts⟩ (sX8_name l dC dI _ L cid K N tW sK sV v_14 (v p0 3) 1 (v p1 15) I_16 h_9 (by omega) (by omega)) (cwV 2 hts (jgoodV m_1068 m_1069 m_1070 m_928 m_1071) rfl rfl rfl (by decide +kernel) ⟨(Nat.le_of_ble_eq_true rfl), (Nat.le_of_ble_eq_true rfl)⟩) ⟨xP_blind, xrecv hK hP h_9 rfl rfl, fun U hU hW => ⟨rfl, xP_of hU hW hP hK hD hX hS (fun _ h => h) hA⟩⟩ rfl rfl hl.1 rfl (lv_room (Nat.le_of_ble_eq_true rfl)) dX12_ask_28 ⟨(Nat.le_of_ble_eq_true rfl), (Nat.le_of_ble_eq_true rfl)⟩) hD hS hA (fun v_21 H locs w_19 hP hK hD hS => ?_)
  obtain ⟨I_23, f_22⟩ := w_19
  have hP : va_P (dC, dI) vwCl (xG L cid K N v_21) H := hP
  have hD : va_D A (xG L cid K N v_21) := hD
  refine lv_aload_n hx hb dX12_ask_31 rfl (lv_at hl 1 rfl) ?_
  refine gx_RX12_19 (y := v p0 3) hx hb hj hown hK hP q0 ((xf_12_3 I_23 q0).1) (((fr_use q0 f_22 rfl)).trans (fr_use q0 f_15 rfl)) dX12_ask_32 ?_
  refine lv_iconst (v := iI 2) hx hb dX12_ask_35 rfl ?_
  refine lv_aload_n hx hb dX12_ask_36 rfl (lv_at hl 2 rfl) ?_
  refine gx_RX12_345 (y := v_21 p1 16) hx hb hj hown hK hP q1 rfl dX12_ask_37 ?_
  refine jc_i (va_runS (As := [.long (lL (v_21 p1 16))]) (rest := [.int (iI 2), .ref (v p0 3).toNat]) ⟨hx, hb, hml, hown, hts⟩ (sJ13_bitCount_95d88 l dC dI _ (v_21 p1 16) ) (va_cwS 1 hts (jgoodS m_1072 m_1073 m_1074 m_1075) rfl rfl rfl (by decide +kernel) ⟨(Nat.le_of_ble_eq_true rfl), (Nat.le_of_ble_eq_true rfl)⟩) ⟨jw_blind0, fun U hU hW => ⟨rfl, congrArg Array.size hU⟩⟩ rfl rfl hl.1 rfl (lv_room (Nat.le_of_ble_eq_true rfl)) dX12_ask_40 ⟨(Nat.le_of_ble_eq_true rfl), (Nat.le_of_ble_eq_true rfl)⟩) hP hS hA (fun r_24 H locs w_25 hP hS => ?_)
  obtain ⟨z_26, rfl, h_27⟩ := w_25
  refine jcg_v (va_runV (As := [.int (iI 2), .int (iI z_26)]) (rest := []) ⟨hx, hb, hml, hown, hts⟩ (sX8_name l dC dI _ L cid K N tW sK sV v_21 (v p0 3) 2 z_26 I_23 h_9 (by omega) (by omega)) (cwV 2 hts (jgoodV m_1068 m_1069 m_1070 m_928 m_1071) rfl rfl rfl (by decide +kernel) ⟨(Nat.le_of_ble_eq_true rfl), (Nat.le_of_ble_eq_true rfl)⟩) ⟨xP_blind, xrecv hK hP h_9 rfl rfl, fun U hU hW => ⟨rfl, xP_of hU hW hP hK hD hX hS (fun _ h => h) hA⟩⟩ rfl rfl hl.1 rfl (lv_room (Nat.le_of_ble_eq_true rfl)) dX12_ask_43 ⟨(Nat.le_of_ble_eq_true rfl), (Nat.le_of_ble_eq_true rfl)⟩) hD hS hA (fun v_31 H locs w_29 hP hK hD hS => ?_)
  obtain ⟨I_33, f_32⟩ := w_29
  have hP : va_P (dC, dI) vwCl (xG L cid K N v_31) H := hP
  have hD : va_D A (xG L cid K N v_31) := hD
  refine lv_aload_n hx hb dX12_ask_46 rfl (lv_at hl 1 rfl) ?_
  refine gx_RX12_19 (y := v p0 3) hx hb hj hown hK hP q0 ((xf_12_3 I_33 q0).1) (((fr_use q0 f_32 rfl)).trans (((fr_use q0 f_22 rfl)).trans (fr_use q0 f_15 rfl))) dX12_ask_47 ?_
  refine lv_iconst (v := iI 3) hx hb dX12_ask_50 rfl ?_
  refine lv_aload_n hx hb dX12_ask_51 rfl (lv_at hl 1 rfl) ?_
  refine lv_aload_n hx hb dX12_ask_52 rfl (lv_at hl 2 rfl) ?_
  have h_34 : (-2147483648) ≤ v p1 0 ∧ v p1 0 ≤ 2147483647 := xf_0_0 hI q1
  refine gx_RX12_186 (y := v p1 0) hx hb hj hown hK hP q1 (((fr_use q1 f_32 rfl)).trans (((fr_use q1 f_22 rfl)).trans (fr_use q1 f_15 rfl))) dX12_ask_53 ?_
  refine jc_i (va_runV (As := [.int (iI (v p1 0))]) (rest := [.int (iI 3), .ref (v p0 3).toNat]) ⟨hx, hb, hml, hown, hts⟩ (sX12_pointersTo l dC dI _ L cid K N tW sK sV v_31 p0 (v p1 0) I_33 q0 (by omega)) (cwV 1 hts (jgoodV m_1076 m_1077 m_1078 m_873 m_1079) rfl rfl rfl (by decide +kernel) ⟨(Nat.le_of_ble_eq_true rfl), (Nat.le_of_ble_eq_true rfl)⟩) ⟨xP_blind, xrecv hK hP q0 rfl rfl, fun U hU hW => ⟨rfl, xP_of hU hW hP hK hD hX hS (fun _ h => h) hA⟩⟩ rfl rfl hl.1 rfl (lv_room (Nat.le_of_ble_eq_true rfl)) dX12_ask_56 ⟨(Nat.le_of_ble_eq_true rfl), (Nat.le_of_ble_eq_true rfl)⟩) hP hS hA (fun r_35 H locs w_36 hP hS => ?_)
  obtain ⟨z_37, rfl, h_38⟩ := w_36
  refine jcg_v (va_runV (As := [.int (iI 3), .int (iI z_37)]) (rest := []) ⟨hx, hb, hml, hown, hts⟩ (sX8_name l dC dI _ L cid K N tW sK sV v_31 (v p0 3) 3 z_37 I_33 h_9 (by omega) (by omega)) (cwV 2 hts (jgoodV m_1068 m_1069 m_1070 m_928 m_1071) rfl rfl rfl (by decide +kernel) ⟨(Nat.le_of_ble_eq_true rfl), (Nat.le_of_ble_eq_true rfl)⟩) ⟨xP_blind, xrecv hK hP h_9 rfl rfl, fun U hU hW => ⟨rfl, xP_of hU hW hP hK hD hX hS (fun _ h => h) hA⟩⟩ rfl rfl hl.1 rfl (lv_room (Nat.le_of_ble_eq_true rfl)) dX12_ask_59 ⟨(Nat.le_of_ble_eq_true rfl), (Nat.le_of_ble_eq_true rfl)⟩) hD hS hA (fun v_42 H locs w_40 hP hK hD hS => ?_)
  obtain ⟨I_44, f_43⟩ := w_40
  have hP : va_P (dC, dI) vwCl (xG L cid K N v_42) H := hP
  have hD : va_D A (xG L cid K N v_42) := hD
  refine lv_aload_n hx hb dX12_ask_62 rfl (lv_at hl 1 rfl) ?_
  refine gx_RX12_19 (y := v p0 3) hx hb hj hown hK hP q0 ((xf_12_3 I_44 q0).1) (((fr_use q0 f_43 rfl)).trans (((fr_use q0 f_32 rfl)).trans (((fr_use q0 f_22 rfl)).trans (fr_use q0 f_15 rfl)))) dX12_ask_63 ?_
  refine lv_iconst (v := iI 4) hx hb dX12_ask_66 rfl ?_
  refine lv_aload_n hx hb dX12_ask_67 rfl (lv_at hl 2 rfl) ?_
  have h_45 : (-2147483648) ≤ v p1 8 ∧ v p1 8 ≤ 2147483647 := xf_0_8 hI q1
  refine gx_RX12_180 (y := v p1 8) hx hb hj hown hK hP q1 (((fr_use q1 f_43 rfl)).trans (((fr_use q1 f_32 rfl)).trans (((fr_use q1 f_22 rfl)).trans (fr_use q1 f_15 rfl)))) dX12_ask_68 ?_
  refine jcg_v (va_runV (As := [.int (iI 4), .int (iI (v p1 8))]) (rest := []) ⟨hx, hb, hml, hown, hts⟩ (sX8_name l dC dI _ L cid K N tW sK sV v_42 (v p0 3) 4 (v p1 8) I_44 h_9 (by omega) (by omega)) (cwV 2 hts (jgoodV m_1068 m_1069 m_1070 m_928 m_1071) rfl rfl rfl (by decide +kernel) ⟨(Nat.le_of_ble_eq_true rfl), (Nat.le_of_ble_eq_true rfl)⟩) ⟨xP_blind, xrecv hK hP h_9 rfl rfl, fun U hU hW => ⟨rfl, xP_of hU hW hP hK hD hX hS (fun _ h => h) hA⟩⟩ rfl rfl hl.1 rfl (lv_room (Nat.le_of_ble_eq_true rfl)) dX12_ask_71 ⟨(Nat.le_of_ble_eq_true rfl), (Nat.le_of_ble_eq_true rfl)⟩) hD hS hA (fun v_49 H locs w_47 hP hK hD hS => ?_)
  obtain ⟨I_51, f_50⟩ := w_47
  have hP : va_P (dC, dI) vwCl (xG L cid K N v_49) H := hP
  have hD : va_D A (xG L cid K N v_49) := hD
  refine lv_aload_n hx hb dX12_ask_74 rfl (lv_at hl 1 rfl) ?_
  refine gx_RX12_19 (y := v p0 3) hx hb hj hown hK hP q0 ((xf_12_3 I_51 q0).1) (((fr_use q0 f_50 rfl)).trans (((fr_use q0 f_43 rfl)).trans (((fr_use q0 f_32 rfl)).trans (((fr_use q0 f_22 rfl)).trans (fr_use q0 f_15 rfl))))) dX12_ask_75 ?_
  refine lv_iconst (v := iI 5) hx hb dX12_ask_78 rfl ?_
  refine xq_aload hx hb dX12_ask_79 (lv_at hl 0 rfl) ?_
  have J93 : ∀ (s0_93 : Int) (H : Heap) (locs : List Loc) (ls : Array Slot), ((-2147483648) ≤ s0_93 ∧ s0_93 ≤ 2147483647) → va_P (dC, dI) vwCl (xG L cid K N v_49) H → va_D A (xG L cid K N v_49) → va_S A s.heap H locs → lv_has ls 5 [(4, rv z_3), (0, .ref p0.toNat), (1, .ref p1.toNat), (2, .int (iI p2)), (3, .int (iI p3))] → W p l e ({ frames := 2, cells := 0, slots := 0, locals := 45 }) s m ([.ref p0.toNat, .ref p1.toNat, .int (iI p2), .int (iI p3)] : List Value).toArray below meth c H locs 0 0 Q (F0 m 93 ls [.int (iI s0_93), .int (iI 5), .ref (v p0 3).toNat]) := by
    intro s0_93 H locs ls h_52 hP hD hS hl
    refine jcg_v (va_runV (As := [.int (iI 5), .int (iI s0_93)]) (rest := []) ⟨hx, hb, hml, hown, hts⟩ (sX8_name l dC dI _ L cid K N tW sK sV v_49 (v p0 3) 5 s0_93 I_51 h_9 (by omega) (by omega)) (cwV 2 hts (jgoodV m_1068 m_1069 m_1070 m_928 m_1071) rfl rfl rfl (by decide +kernel) ⟨(Nat.le_of_ble_eq_true rfl), (Nat.le_of_ble_eq_true rfl)⟩) ⟨xP_blind, xrecv hK hP h_9 rfl rfl, fun U hU hW => ⟨rfl, xP_of hU hW hP hK hD hX hS (fun _ h => h) hA⟩⟩ rfl rfl hl.1 rfl (lv_room (Nat.le_of_ble_eq_true rfl)) dX12_ask_93 ⟨(Nat.le_of_ble_eq_true rfl), (Nat.le_of_ble_eq_true rfl)⟩) hD hS hA (fun v_56 H locs w_54 hP hK hD hS => ?_)
    obtain ⟨I_58, f_57⟩ := w_54
    have hP : va_P (dC, dI) vwCl (xG L cid K N v_56) H := hP
    have hD : va_D A (xG L cid K N v_56) := hD
    refine lv_aload_n hx hb dX12_ask_96 rfl (lv_at hl 1 rfl) ?_
    refine gx_RX12_19 (y := v p0 3) hx hb hj hown hK hP q0 ((xf_12_3 I_58 q0).1) (((fr_use q0 f_57 rfl)).trans (((fr_use q0 f_50 rfl)).trans (((fr_use q0 f_43 rfl)).trans (((fr_use q0 f_32 rfl)).trans (((fr_use q0 f_22 rfl)).trans (fr_use q0 f_15 rfl)))))) dX12_ask_97 ?_
    refine lv_bipush (v := iI 6) hx hb dX12_ask_100 rfl ?_
    refine xq_aload hx hb dX12_ask_102 (lv_at hl 0 rfl) ?_
    have J125 : ∀ (s0_125 : Int) (H : Heap) (locs : List Loc) (ls : Array Slot), ((-2147483648) ≤ s0_125 ∧ s0_125 ≤ 2147483647) → va_P (dC, dI) vwCl (xG L cid K N v_56) H → va_D A (xG L cid K N v_56) → va_S A s.heap H locs → lv_has ls 5 [(4, rv z_3), (0, .ref p0.toNat), (1, .ref p1.toNat), (2, .int (iI p2)), (3, .int (iI p3))] → W p l e ({ frames := 2, cells := 0, slots := 0, locals := 45 }) s m ([.ref p0.toNat, .ref p1.toNat, .int (iI p2), .int (iI p3)] : List Value).toArray below meth c H locs 0 0 Q (F0 m 125 ls [.int (iI s0_125), .int (iI 6), .ref (v p0 3).toNat]) := by
      intro s0_125 H locs ls h_59 hP hD hS hl
      refine jcg_v (va_runV (As := [.int (iI 6), .int (iI s0_125)]) (rest := []) ⟨hx, hb, hml, hown, hts⟩ (sX8_name l dC dI _ L cid K N tW sK sV v_56 (v p0 3) 6 s0_125 I_58 h_9 (by omega) (by omega)) (cwV 2 hts (jgoodV m_1068 m_1069 m_1070 m_928 m_1071) rfl rfl rfl (by decide +kernel) ⟨(Nat.le_of_ble_eq_true rfl), (Nat.le_of_ble_eq_true rfl)⟩) ⟨xP_blind, xrecv hK hP h_9 rfl rfl, fun U hU hW => ⟨rfl, xP_of hU hW hP hK hD hX hS (fun _ h => h) hA⟩⟩ rfl rfl hl.1 rfl (lv_room (Nat.le_of_ble_eq_true rfl)) dX12_ask_125 ⟨(Nat.le_of_ble_eq_true rfl), (Nat.le_of_ble_eq_true rfl)⟩) hD hS hA (fun v_63 H locs w_61 hP hK hD hS => ?_)
      obtain ⟨I_65, f_64⟩ := w_61
      have hP : va_P (dC, dI) vwCl (xG L cid K N v_63) H := hP
      have hD : va_D A (xG L cid K N v_63) := hD
      refine lv_aload_n hx hb dX12_ask_128 rfl (lv_at hl 1 rfl) ?_
      refine gx_RX12_19 (y := v p0 3) hx hb hj hown hK hP q0 ((xf_12_3 I_65 q0).1) (((fr_use q0 f_64 rfl)).trans (((fr_use q0 f_57 rfl)).trans (((fr_use q0 f_50 rfl)).trans (((fr_use q0 f_43 rfl)).trans (((fr_use q0 f_32 rfl)).trans (((fr_use q0 f_22 rfl)).trans (fr_use q0 f_15 rfl))))))) dX12_ask_129 ?_
      refine lv_bipush (v := iI 7) hx hb dX12_ask_132 rfl ?_
      refine lv_iload_n hx hb dX12_ask_134 rfl (lv_at hl 3 rfl) ?_
      refine jcg_v (va_runV (As := [.int (iI 7), .int (iI p2)]) (rest := []) ⟨hx, hb, hml, hown, hts⟩ (sX8_name l dC dI _ L cid K N tW sK sV v_63 (v p0 3) 7 p2 I_65 h_9 (by omega) (by omega)) (cwV 2 hts (jgoodV m_1068 m_1069 m_1070 m_928 m_1071) rfl rfl rfl (by decide +kernel) ⟨(Nat.le_of_ble_eq_true rfl), (Nat.le_of_ble_eq_true rfl)⟩) ⟨xP_blind, xrecv hK hP h_9 rfl rfl, fun U hU hW => ⟨rfl, xP_of hU hW hP hK hD hX hS (fun _ h => h) hA⟩⟩ rfl rfl hl.1 rfl (lv_room (Nat.le_of_ble_eq_true rfl)) dX12_ask_135 ⟨(Nat.le_of_ble_eq_true rfl), (Nat.le_of_ble_eq_true rfl)⟩) hD hS hA (fun v_69 H locs w_67 hP hK hD hS => ?_)
      obtain ⟨I_71, f_70⟩ := w_67
      have hP : va_P (dC, dI) vwCl (xG L cid K N v_69) H := hP
      have hD : va_D A (xG L cid K N v_69) := hD
      refine lv_aload_n hx hb dX12_ask_138 rfl (lv_at hl 1 rfl) ?_
      refine gx_RX12_19 (y := v p0 3) hx hb hj hown hK hP q0 ((xf_12_3 I_71 q0).1) (((fr_use q0 f_70 rfl)).trans (((fr_use q0 f_64 rfl)).trans (((fr_use q0 f_57 rfl)).trans (((fr_use q0 f_50 rfl)).trans (((fr_use q0 f_43 rfl)).trans (((fr_use q0 f_32 rfl)).trans (((fr_use q0 f_22 rfl)).trans (fr_use q0 f_15 rfl)))))))) dX12_ask_139 ?_
      refine lv_bipush (v := iI 8) hx hb dX12_ask_142 rfl ?_
      refine xq_aload hx hb dX12_ask_144 (lv_at hl 0 rfl) ?_
      have J158 : ∀ (s0_158 : Int) (H : Heap) (locs : List Loc) (ls : Array Slot), ((-2147483648) ≤ s0_158 ∧ s0_158 ≤ 2147483647) → va_P (dC, dI) vwCl (xG L cid K N v_69) H → va_D A (xG L cid K N v_69) → va_S A s.heap H locs → lv_has ls 5 [(4, rv z_3), (0, .ref p0.toNat), (1, .ref p1.toNat), (2, .int (iI p2)), (3, .int (iI p3))] → W p l e ({ frames := 2, cells := 0, slots := 0, locals := 45 }) s m ([.ref p0.toNat, .ref p1.toNat, .int (iI p2), .int (iI p3)] : List Value).toArray below meth c H locs 0 0 Q (F0 m 158 ls [.int (iI s0_158), .int (iI 8), .ref (v p0 3).toNat]) := by
        intro s0_158 H locs ls h_72 hP hD hS hl
        refine jcg_v (va_runV (As := [.int (iI 8), .int (iI s0_158)]) (rest := []) ⟨hx, hb, hml, hown, hts⟩ (sX8_name l dC dI _ L cid K N tW sK sV v_69 (v p0 3) 8 s0_158 I_71 h_9 (by omega) (by omega)) (cwV 2 hts (jgoodV m_1068 m_1069 m_1070 m_928 m_1071) rfl rfl rfl (by decide +kernel) ⟨(Nat.le_of_ble_eq_true rfl), (Nat.le_of_ble_eq_true rfl)⟩) ⟨xP_blind, xrecv hK hP h_9 rfl rfl, fun U hU hW => ⟨rfl, xP_of hU hW hP hK hD hX hS (fun _ h => h) hA⟩⟩ rfl rfl hl.1 rfl (lv_room (Nat.le_of_ble_eq_true rfl)) dX12_ask_158 ⟨(Nat.le_of_ble_eq_true rfl), (Nat.le_of_ble_eq_true rfl)⟩) hD hS hA (fun v_76 H locs w_74 hP hK hD hS => ?_)
        obtain ⟨I_78, f_77⟩ := w_74
        have hP : va_P (dC, dI) vwCl (xG L cid K N v_76) H := hP
        have hD : va_D A (xG L cid K N v_76) := hD
        rw [← hQ]
        exact W.vret hx hb hr (fun t ht hW => ⟨⟨v_76, rfl, ⟨I_78, (fr_tr f_77 rfl (fr_tr f_70 rfl (fr_tr f_64 rfl (fr_tr f_57 rfl (fr_tr f_50 rfl (fr_tr f_43 rfl (fr_tr f_32 rfl (fr_tr f_22 rfl (fr_tr f_15 rfl fr_rf)))))))))⟩, by rw [ht]; exact hP, va_K.moved hW.alike hK, hD⟩, hS.F ht⟩) hS.2.2 dX12_ask_161
      refine xq_ifnonnull (tgt := 153) hx hb dX12_ask_146 (by decide) (fun h_79 => ?_) (fun h_79 => ?_)
      · have h_80 : ok L K z_3 2 := h_4.resolve_left (by omega)
        refine lv_aload_n hx hb dX12_ask_153 rfl (lv_at hl 1 rfl) ?_
        refine lv_iload_n hx hb dX12_ask_154 rfl (lv_at hl 4 rfl) ?_
        refine jc_i (va_runV (As := [.int (iI p3)]) (rest := [.int (iI 8), .ref (v p0 3).toNat]) ⟨hx, hb, hml, hown, hts⟩ (sX12_unfinished l dC dI _ L cid K N tW sK sV v_69 p0 p3 I_71 q0 (by omega)) (cwV 1 hts (jgoodV m_1080 m_1081 m_1082 m_873 m_1083) rfl rfl rfl (by decide +kernel) ⟨(Nat.le_of_ble_eq_true rfl), (Nat.le_of_ble_eq_true rfl)⟩) ⟨xP_blind, xrecv hK hP q0 rfl rfl, fun U hU hW => ⟨rfl, xP_of hU hW hP hK hD hX hS (fun _ h => h) hA⟩⟩ rfl rfl hl.1 rfl (lv_room (Nat.le_of_ble_eq_true rfl)) dX12_ask_155 ⟨(Nat.le_of_ble_eq_true rfl), (Nat.le_of_ble_eq_true rfl)⟩) hP hS hA (fun r_81 H locs w_82 hP hS => ?_)
        obtain ⟨z_83, rfl, h_84⟩ := w_82
        exact J158 z_83 H locs ls (by omega) hP hD hS hl
      · refine lv_iconst (v := iI 0) hx hb dX12_ask_149 rfl ?_
        refine lv_goto (tgt := 158) hx hb dX12_ask_150 (by decide) ?_
        exact J158 0 H locs ls (by omega) hP hD hS hl
    refine xq_ifnonnull (tgt := 111) hx hb dX12_ask_104 (by decide) (fun h_85 => ?_) (fun h_85 => ?_)
    · have h_86 : ok L K z_3 2 := h_4.resolve_left (by omega)
      refine lv_aload_n hx hb dX12_ask_111 rfl (lv_at hl 1 rfl) ?_
      have h_87 : 0 ≤ v p0 0 ∧ v p0 0 ≤ 2000 := xf_12_0 hI q0
      refine gx_RX12_133 (y := v p0 0) hx hb hj hown hK hP q0 (((fr_use q0 f_57 rfl)).trans (((fr_use q0 f_50 rfl)).trans (((fr_use q0 f_43 rfl)).trans (((fr_use q0 f_32 rfl)).trans (((fr_use q0 f_22 rfl)).trans (fr_use q0 f_15 rfl)))))) dX12_ask_112 ?_
      refine xq_aload hx hb dX12_ask_115 (lv_at hl 0 rfl) ?_
      refine jt_q (.ref z_3.toNat) (rv_ref (h_86).1) ?_
      have h_88 : (-2147483648) ≤ v z_3 2 ∧ v z_3 2 ≤ 2147483647 := xf_2_2 hI h_86
      refine gx_RX12_361 (y := v z_3 2) hx hb hj hown hK hP h_86 (((fr_use h_86 f_57 rfl)).trans (((fr_use h_86 f_50 rfl)).trans (((fr_use h_86 f_43 rfl)).trans (((fr_use h_86 f_32 rfl)).trans (((fr_use h_86 f_22 rfl)).trans (fr_use h_86 f_15 rfl)))))) dX12_ask_117 ?_
      refine xr_sub hx hb dX12_ask_120 ?_
      refine xr_kept (fun z_89 h_90 h_91 => ?_)
      refine lv_sipush (v := iI 365) hx hb dX12_ask_121 rfl ?_
      refine xr_divA hx hb dX12_ask_124 (by omega) (by omega) (fun z_92 h_93 => ?_)
      exact J125 z_92 H locs ls (by omega) hP hD hS hl
    · refine lv_iconst (v := iI 0) hx hb dX12_ask_107 rfl ?_
      refine lv_goto (tgt := 125) hx hb dX12_ask_108 (by decide) ?_
      exact J125 0 H locs ls (by omega) hP hD hS hl
  refine xq_ifnonnull (tgt := 88) hx hb dX12_ask_81 (by decide) (fun h_94 => ?_) (fun h_94 => ?_)
  · have h_95 : ok L K z_3 2 := h_4.resolve_left (by omega)
    refine xq_aload hx hb dX12_ask_88 (lv_at hl 0 rfl) ?_
    refine jt_q (.ref z_3.toNat) (rv_ref (h_95).1) ?_
    have h_96 : (-2147483648) ≤ v z_3 1 ∧ v z_3 1 ≤ 2147483647 := xf_2_1 hI h_95
    refine gx_RX12_358 (y := v z_3 1) hx hb hj hown hK hP h_95 (((fr_use h_95 f_50 rfl)).trans (((fr_use h_95 f_43 rfl)).trans (((fr_use h_95 f_32 rfl)).trans (((fr_use h_95 f_22 rfl)).trans (fr_use h_95 f_15 rfl))))) dX12_ask_90 ?_
    exact J93 (v z_3 1) H locs ls (by omega) hP hD hS hl
  · refine lv_iconst (v := iI 0) hx hb dX12_ask_84 rfl ?_
    refine lv_goto (tgt := 93) hx hb dX12_ask_85 (by decide) ?_
    exact J93 0 H locs ls (by omega) hP hD hS hl
set_option maxHeartbeats 2000000 in
set_option maxRecDepth 100000 in
theorem sX12_valueFor (l : Launch) (dC : Nat → ClassId) (dI : Nat → Nat → Nat) (sz : Nat) (L : List Nat) (cid : Nat → ClassId) (K : Int → Nat) (N : Int → Int) (tW : Nat) (sK sV : Nat → Nat) (v : Int → Int → Int) (p0 : Int) (p1 : Int) (p2 : Int) (p3 : Int) (hI : xI L K N v) (q0 : ok L K p0 12) (q1 : rg p1) (q2 : ok L K p2 0) (q3 : rg p3) : Met l yX12_valueFor (jk yX12_valueFor cX12_valueFor 5 (some .int)) ({ frames := 4, cells := 0, slots := 0, locals := 115 }) (va_Pc [.ref p0.toNat, .int (iI p1), .ref p2.toNat, .int (iI p3)] (xP (dC, dI) (xG L cid K N v) (xT cid) tW sK sV sz)) (va_Qi (fun (r : Int32) (u : (Int → Int → Int)) => ∃ z : Int, r = iI z ∧ (xI L K N u) ∧ (fr K [(33, (-1)), (34, (-1))] u v) ∧ (rg z)) (fun u t => va_P (dC, dI) vwCl (xG L cid K N u) t.heap ∧ va_K (dC, dI) vwCl (xT cid) t ∧ va_D (va_A (xG L cid K N v) sz) (xG L cid K N u)) (va_A (xG L cid K N v) sz)) 0 0 (va_A (xG L cid K N v) sz) := by
  sorry
set_option maxHeartbeats 2000000 in
set_option maxRecDepth 100000 in
theorem sX12_mayTake (l : Launch) (dC : Nat → ClassId) (dI : Nat → Nat → Nat) (sz : Nat) (L : List Nat) (cid : Nat → ClassId) (K : Int → Nat) (N : Int → Int) (tW : Nat) (sK sV : Nat → Nat) (v : Int → Int → Int) (p0 : Int) (p1 : Int) (p2 : Int) (hI : xI L K N v) (q0 : ok L K p0 12) (q1 : ok L K p1 0) (q2 : rg p2) : Met l yX12_mayTake (jk yX12_mayTake cX12_mayTake 4 (some .boolean)) ({ frames := 5, cells := 0, slots := 0, locals := 139 }) (va_Pc [.ref p0.toNat, .ref p1.toNat, .int (iI p2)] (xP (dC, dI) (xG L cid K N v) (xT cid) tW sK sV sz)) (va_Qi (fun (r : Int32) (u : (Int → Int → Int)) => ∃ z : Int, r = iI z ∧ (xI L K N u) ∧ (fr K [(33, (-1)), (34, (-1))] u v) ∧ (0 ≤ z ∧ z ≤ 1)) (fun u t => va_P (dC, dI) vwCl (xG L cid K N u) t.heap ∧ va_K (dC, dI) vwCl (xT cid) t ∧ va_D (va_A (xG L cid K N v) sz) (xG L cid K N u)) (va_A (xG L cid K N v) sz)) 0 0 (va_A (xG L cid K N v) sz) := by
  sorry
set_option maxHeartbeats 2000000 in
set_option maxRecDepth 100000 in
theorem sX12_give (l : Launch) (dC : Nat → ClassId) (dI : Nat → Nat → Nat) (sz : Nat) (L : List Nat) (cid : Nat → ClassId) (K : Int → Nat) (N : Int → Int) (tW : Nat) (sK sV : Nat → Nat) (v : Int → Int → Int) (p0 : Int) (p1 : Int) (p2 : Int) (hI : xI L K N v) (q0 : ok L K p0 12) (q1 : rg p1) (q2 : rg p2) : Met l yX12_give (jk yX12_give cX12_give 4 (some .boolean)) ({ frames := 6, cells := 0, slots := 0, locals := 162 }) (va_Pc [.ref p0.toNat, .int (iI p1), .int (iI p2)] (xP (dC, dI) (xG L cid K N v) (xT cid) tW sK sV sz)) (va_Qi (fun (r : Int32) (u : (Int → Int → Int)) => ∃ z : Int, r = iI z ∧ (xI L K N u) ∧ (fr K [(0, 14), (33, (-1)), (34, (-1))] u v) ∧ (0 ≤ z ∧ z ≤ 1)) (fun u t => va_P (dC, dI) vwCl (xG L cid K N u) t.heap ∧ va_K (dC, dI) vwCl (xT cid) t ∧ va_D (va_A (xG L cid K N v) sz) (xG L cid K N u)) (va_A (xG L cid K N v) sz)) 0 0 (va_A (xG L cid K N v) sz) := by
  sorry
set_option maxHeartbeats 2000000 in
set_option maxRecDepth 100000 in
theorem sX12_lineAt (l : Launch) (dC : Nat → ClassId) (dI : Nat → Nat → Nat) (sz : Nat) (L : List Nat) (cid : Nat → ClassId) (K : Int → Nat) (N : Int → Int) (tW : Nat) (sK sV : Nat → Nat) (v : Int → Int → Int) (p0 : Int) (p1 : Int) (hI : xI L K N v) (q0 : ok L K p0 12) (q1 : rg p1) : Met l yX12_lineAt (jk yX12_lineAt cX12_lineAt 2 (some (.object "BookOfAll$Line"))) ({ frames := 0, cells := 0, slots := 0, locals := 0 }) (va_Pc [.ref p0.toNat, .int (iI p1)] (xP (dC, dI) (xG L cid K N v) (xT cid) tW sK sV sz)) (va_Qq (fun (r : Option Nat) (_ : Unit) => ∃ z : Int, r = opt z ∧ (z < 0 ∨ ok L K z 4)) (fun _ _ => True) (va_A [] sz)) 0 0 (va_A [] sz) := by
  sorry
set_option maxHeartbeats 2000000 in
set_option maxRecDepth 100000 in
theorem sX12_canLean (l : Launch) (dC : Nat → ClassId) (dI : Nat → Nat → Nat) (sz : Nat) (L : List Nat) (cid : Nat → ClassId) (K : Int → Nat) (N : Int → Int) (tW : Nat) (sK sV : Nat → Nat) (v : Int → Int → Int) (p0 : Int) (p1 : Int) (hI : xI L K N v) (q0 : ok L K p0 12) (q1 : rg p1) : Met l yX12_canLean (jk yX12_canLean cX12_canLean 2 (some .boolean)) ({ frames := 2, cells := 0, slots := 0, locals := 47 }) (va_Pc [.ref p0.toNat, .int (iI p1)] (xP (dC, dI) (xG L cid K N v) (xT cid) tW sK sV sz)) (va_Qi (fun (r : Int32) (_ : Unit) => ∃ z : Int, r = iI z ∧ (0 ≤ z ∧ z ≤ 1)) (fun _ _ => True) (va_A [] sz)) 0 0 (va_A [] sz) := by
  refine Met.ofW (cc := cX12_canLean) (maxL := 2) (ret := (some .boolean)) (by decide) rfl ?_
  intro p e s m args below meth c s₁ B hml hv
  obtain ⟨rfl, ⟨hsz, hP, hK, hD0⟩, hX⟩ := hv
  have hx := B.exec
  have hb := B.bytes
  have hr := B.returns
  have hts := atoms_spec (ws := (jk yX12_canLean cX12_canLean 2 (some .boolean))) B.pre
  have hj : ∀ w ∈ jw, w.before ([.ref p0.toNat, .int (iI p1)] : List Value).toArray s = true := fun w h => hts w (jm h)
  have hown : s.vm.findClass RX12 = some m.cls := findClass_of_methodNamed B.named
  subst hsz
  have hDw := hD0.self (sz := s.heap.size)
  have hAA : ∀ q : Nat, s.heap.size ≤ q → va_A (xG L cid K N v) s.heap.size q := fun q h => Or.inr h
  have hAw : ∀ q, va_A [] s.heap.size q → va_A (xG L cid K N v) s.heap.size q := ja_nil va_S.rf hAA
  generalize hAe : (va_A [] s.heap.size) = A at hAw ⊢
  have hA : ∀ q : Nat, s.heap.size ≤ q → A q := fun q h => by rw [← hAe]; exact Or.inr h
  have hS : va_S A s.heap s.heap [] := va_S.rf
  have hXa := hX.nar hAw
  have hP : va_P (dC, dI) vwCl (xG L cid K N v) s.heap := hP
  have hl := lv_entry ([.ref p0.toNat, .int (iI p1)]) (n := 2) (Nat.le_of_ble_eq_true rfl)
  rw [lg_entry_eq]
  generalize (lg_sl ([.ref p0.toNat, .int (iI p1)]) ++ List.replicate (2 - (lg_sl ([.ref p0.toNat, .int (iI p1)])).length) Slot.unset).toArray = ls at hl ⊢
  have hl : lv_has ls 2 [(0, .ref p0.toNat), (1, .int (iI p1))] := hl
  generalize hQ : MQ below (va_Qi (fun (r : Int32) (_ : Unit) => ∃ z : Int, r = iI z ∧ (0 ≤ z ∧ z ≤ 1)) (fun _ _ => True) A) ([.ref p0.toNat, .int (iI p1)] : List Value).toArray s 0 0 A = Q
  suffices ST : ∀ (H : Heap) (locs : List Loc), va_P (dC, dI) vwCl (xG L cid K N v) H → va_S A s.heap H locs → W p l e ({ frames := 2, cells := 0, slots := 0, locals := 47 }) s m ([.ref p0.toNat, .int (iI p1)] : List Value).toArray below meth c H locs 0 0 Q (F0 m 0 ls []) from ST _ _ hP hS
  clear hP hS
  intro H locs hP hS
  refine lv_iload_n hx hb dX12_canLean_0 rfl (lv_at hl 1 rfl) ?_
  refine lv_iconst (v := iI (-1)) hx hb dX12_canLean_1 rfl ?_
  refine xr_icmp_eq (tgt := 32) hx hb dX12_canLean_2 (by decide) (by omega) (by omega) (fun h_1 => ?_) (fun h_1 => ?_)
  · refine lv_iconst (v := iI 1) hx hb dX12_canLean_32 rfl ?_
    refine lv_goto (tgt := 37) hx hb dX12_canLean_33 (by decide) ?_
    rw [← hQ]
    exact W.zret (v := iI 1) (ty := .boolean) hx hb hr (nb_bool (by omega) (by omega)) (fun t ht hW => ⟨⟨iI 1, (), rfl, ⟨1, rfl, by omega⟩, trivial⟩, hS.F ht⟩) hS.2.2 dX12_canLean_37
  · refine lv_aload_n hx hb dX12_canLean_5 rfl (lv_at hl 0 rfl) ?_
    have h_2 : ok L K (v p0 14) 5 := xf_12_14 hI q0
    refine gx_RX12_66 (y := v p0 14) hx hb hj hown hK hP q0 ((xf_12_14 hI q0).1) rfl dX12_canLean_6 ?_
    refine lv_iload_n hx hb dX12_canLean_9 rfl (lv_at hl 1 rfl) ?_
    refine lv_aload_n hx hb dX12_canLean_10 rfl (lv_at hl 0 rfl) ?_
    have h_3 : 0 ≤ v p0 0 ∧ v p0 0 ≤ 2000 := xf_12_0 hI q0
    refine gx_RX12_133 (y := v p0 0) hx hb hj hown hK hP q0 rfl dX12_canLean_11 ?_
    refine jc_i (va_runV (As := [.int (iI p1), .int (iI (v p0 0))]) (rest := []) ⟨hx, hb, hml, hown, hts⟩ (sX5_valueOn l dC dI _ L cid K N tW sK sV v (v p0 14) p1 (v p0 0) hI h_2 (by omega) (by omega)) (cwV 2 hts (jgoodV m_1105 m_1106 m_1107 m_923 m_1108) rfl rfl rfl (by decide +kernel) ⟨(Nat.le_of_ble_eq_true rfl), (Nat.le_of_ble_eq_true rfl)⟩) ⟨xP_blind, xrecv hK hP h_2 rfl rfl, fun U hU hW => ⟨rfl, xP_of hU hW hP hK hDw hX hS hAw hAA⟩⟩ rfl rfl hl.1 rfl (lv_room (Nat.le_of_ble_eq_true rfl)) dX12_canLean_14 ⟨(Nat.le_of_ble_eq_true rfl), (Nat.le_of_ble_eq_true rfl)⟩) hP hS hA (fun r_4 H locs w_5 hP hS => ?_)
    obtain ⟨z_6, rfl, h_7, h_8⟩ := w_5
    refine lv_iconst (v := iI (-1)) hx hb dX12_canLean_17 rfl ?_
    refine xr_icmp_ne (tgt := 32) hx hb dX12_canLean_18 (by decide) (by omega) (by omega) (fun h_9 => ?_) (fun h_9 => ?_)
    · refine lv_iconst (v := iI 1) hx hb dX12_canLean_32 rfl ?_
      refine lv_goto (tgt := 37) hx hb dX12_canLean_33 (by decide) ?_
      rw [← hQ]
      exact W.zret (v := iI 1) (ty := .boolean) hx hb hr (nb_bool (by omega) (by omega)) (fun t ht hW => ⟨⟨iI 1, (), rfl, ⟨1, rfl, by omega⟩, trivial⟩, hS.F ht⟩) hS.2.2 dX12_canLean_37
    · refine lv_aload_n hx hb dX12_canLean_21 rfl (lv_at hl 0 rfl) ?_
      refine lv_iload_n hx hb dX12_canLean_22 rfl (lv_at hl 1 rfl) ?_
      refine lv_bipush (v := iI 100) hx hb dX12_canLean_23 rfl ?_
      refine xr_sub hx hb dX12_canLean_25 ?_
      refine xr_kept (fun z_10 h_11 h_12 => ?_)
      refine jc_q (va_runV (As := [.int (iI z_10)]) (rest := []) ⟨hx, hb, hml, hown, hts⟩ (sX12_lineAt l dC dI _ L cid K N tW sK sV v p0 z_10 hI q0 (by omega)) (cwV 1 hts (jgoodV m_1109 m_1110 m_1111 m_873 m_1112) rfl rfl rfl (by decide +kernel) ⟨(Nat.le_of_ble_eq_true rfl), (Nat.le_of_ble_eq_true rfl)⟩) ⟨xP_blind, xrecv hK hP q0 rfl rfl, fun U hU hW => ⟨rfl, xP_of hU hW hP hK hDw hX hS hAw hAA⟩⟩ rfl rfl hl.1 rfl (lv_room (Nat.le_of_ble_eq_true rfl)) dX12_canLean_26 ⟨(Nat.le_of_ble_eq_true rfl), (Nat.le_of_ble_eq_true rfl)⟩) hP hS hA (fun r_13 H locs w_14 hP hS => ?_)
      obtain ⟨z_15, rfl, h_16⟩ := w_14
      refine jt_q (rv z_15) rfl ?_
      refine xq_ifnull (tgt := 36) hx hb dX12_canLean_29 (by decide) (fun h_17 => ?_) (fun h_17 => ?_)
      · refine lv_iconst (v := iI 0) hx hb dX12_canLean_36 rfl ?_
        rw [← hQ]
        exact W.zret (v := iI 0) (ty := .boolean) hx hb hr (nb_bool (by omega) (by omega)) (fun t ht hW => ⟨⟨iI 0, (), rfl, ⟨0, rfl, by omega⟩, trivial⟩, hS.F ht⟩) hS.2.2 dX12_canLean_37
      · have h_18 : ok L K z_15 4 := h_16.resolve_left (by omega)
        refine lv_iconst (v := iI 1) hx hb dX12_canLean_32 rfl ?_
        refine lv_goto (tgt := 37) hx hb dX12_canLean_33 (by decide) ?_
        rw [← hQ]
        exact W.zret (v := iI 1) (ty := .boolean) hx hb hr (nb_bool (by omega) (by omega)) (fun t ht hW => ⟨⟨iI 1, (), rfl, ⟨1, rfl, by omega⟩, trivial⟩, hS.F ht⟩) hS.2.2 dX12_canLean_37
set_option maxHeartbeats 2000000 in
set_option maxRecDepth 100000 in
theorem sX12_lean (l : Launch) (dC : Nat → ClassId) (dI : Nat → Nat → Nat) (sz : Nat) (L : List Nat) (cid : Nat → ClassId) (K : Int → Nat) (N : Int → Int) (tW : Nat) (sK sV : Nat → Nat) (v : Int → Int → Int) (p0 : Int) (p1 : Int) (p2 : Int) (hI : xI L K N v) (q0 : ok L K p0 12) (q1 : ok L K p1 4) (q2 : rg p2) : Met l yX12_lean (jk yX12_lean cX12_lean 4 none) ({ frames := 2, cells := 0, slots := 0, locals := 47 }) (va_Pc [.ref p0.toNat, .ref p1.toNat, .int (iI p2)] (xP (dC, dI) (xG L cid K N v) (xT cid) tW sK sV sz)) (va_Qv (fun (u : (Int → Int → Int)) => (xI L K N u) ∧ (fr K [(4, 3), (4, 4), (4, 5), (4, 6)] u v)) (fun u t => va_P (dC, dI) vwCl (xG L cid K N u) t.heap ∧ va_K (dC, dI) vwCl (xT cid) t ∧ va_D (va_A (xG L cid K N v) sz) (xG L cid K N u)) (va_A (xG L cid K N v) sz)) 0 0 (va_A (xG L cid K N v) sz) := by
  refine Met.ofW (cc := cX12_lean) (maxL := 4) (ret := none) (by decide) rfl ?_
  intro p e s m args below meth c s₁ B hml hv
  obtain ⟨rfl, ⟨hsz, hP, hK, hD0⟩, hX⟩ := hv
  have hx := B.exec
  have hb := B.bytes
  have hr := B.returns
  have hts := atoms_spec (ws := (jk yX12_lean cX12_lean 4 none)) B.pre
  have hj : ∀ w ∈ jw, w.before ([.ref p0.toNat, .ref p1.toNat, .int (iI p2)] : List Value).toArray s = true := fun w h => hts w (jm h)
  have hown : s.vm.findClass RX12 = some m.cls := findClass_of_methodNamed B.named
  subst hsz
  have hD := hD0.self (sz := s.heap.size)
  generalize hAe : (va_A (xG L cid K N v) s.heap.size) = A at hD hX ⊢
  have hA : ∀ q : Nat, s.heap.size ≤ q → A q := fun q h => by rw [← hAe]; exact Or.inr h
  have hS : va_S A s.heap s.heap [] := va_S.rf
  have hXa := hX
  have hP : va_P (dC, dI) vwCl (xG L cid K N v) s.heap := hP
  have hl := lv_entry ([.ref p0.toNat, .ref p1.toNat, .int (iI p2)]) (n := 4) (Nat.le_of_ble_eq_true rfl)
  rw [lg_entry_eq]
  generalize (lg_sl ([.ref p0.toNat, .ref p1.toNat, .int (iI p2)]) ++ List.replicate (4 - (lg_sl ([.ref p0.toNat, .ref p1.toNat, .int (iI p2)])).length) Slot.unset).toArray = ls at hl ⊢
  have hl : lv_has ls 4 [(0, .ref p0.toNat), (1, .ref p1.toNat), (2, .int (iI p2))] := hl
  generalize hQ : MQ below (va_Qv (fun (u : (Int → Int → Int)) => (xI L K N u) ∧ (fr K [(4, 3), (4, 4), (4, 5), (4, 6)] u v)) (fun u t => va_P (dC, dI) vwCl (xG L cid K N u) t.heap ∧ va_K (dC, dI) vwCl (xT cid) t ∧ va_D A (xG L cid K N u)) A) ([.ref p0.toNat, .ref p1.toNat, .int (iI p2)] : List Value).toArray s 0 0 A = Q
  suffices ST : ∀ (H : Heap) (locs : List Loc), va_P (dC, dI) vwCl (xG L cid K N v) H → va_S A s.heap H locs → W p l e ({ frames := 2, cells := 0, slots := 0, locals := 47 }) s m ([.ref p0.toNat, .ref p1.toNat, .int (iI p2)] : List Value).toArray below meth c H locs 0 0 Q (F0 m 0 ls []) from ST _ _ hP hS
  clear hP hS
  intro H locs hP hS
  refine lv_aload_n hx hb dX12_lean_0 rfl (lv_at hl 0 rfl) ?_
  refine lv_iload_n hx hb dX12_lean_1 rfl (lv_at hl 2 rfl) ?_
  refine lv_bipush (v := iI 100) hx hb dX12_lean_2 rfl ?_
  refine xr_sub hx hb dX12_lean_4 ?_
  refine xr_kept (fun z_1 h_2 h_3 => ?_)
  refine jc_q (va_runV (As := [.int (iI z_1)]) (rest := []) ⟨hx, hb, hml, hown, hts⟩ (sX12_lineAt l dC dI _ L cid K N tW sK sV v p0 z_1 hI q0 (by omega)) (cwV 1 hts (jgoodV m_1109 m_1110 m_1111 m_873 m_1112) rfl rfl rfl (by decide +kernel) ⟨(Nat.le_of_ble_eq_true rfl), (Nat.le_of_ble_eq_true rfl)⟩) ⟨xP_blind, xrecv hK hP q0 rfl rfl, fun U hU hW => ⟨rfl, xP_of hU hW hP hK hD hX hS (fun _ h => h) hA⟩⟩ rfl rfl hl.1 rfl (lv_room (Nat.le_of_ble_eq_true rfl)) dX12_lean_5 ⟨(Nat.le_of_ble_eq_true rfl), (Nat.le_of_ble_eq_true rfl)⟩) hP hS hA (fun r_4 H locs w_5 hP hS => ?_)
  obtain ⟨z_6, rfl, h_7⟩ := w_5
  refine jt_q (rv z_6) rfl ?_
  refine xq_astore_n (i := 3) (lv' := [(3, rv z_6), (0, .ref p0.toNat), (1, .ref p1.toNat), (2, .int (iI p2))]) hx hb dX12_lean_8 rfl hl (by decide) rfl (fun ls hl => ?_)
  refine lv_iload_n hx hb dX12_lean_9 rfl (lv_at hl 3 rfl) ?_
  refine lv_iconst (v := iI (-1)) hx hb dX12_lean_10 rfl ?_
  refine xr_icmp_ne (tgt := 22) hx hb dX12_lean_11 (by decide) (by omega) (by omega) (fun h_8 => ?_) (fun h_8 => ?_)
  · refine xq_aload_n hx hb dX12_lean_22 rfl (lv_at hl 0 rfl) ?_
    refine xq_ifnonnull (tgt := 58) hx hb dX12_lean_23 (by decide) (fun h_9 => ?_) (fun h_9 => ?_)
    · have h_10 : ok L K z_6 4 := h_7.resolve_left (by omega)
      refine lv_aload_n hx hb dX12_lean_58 rfl (lv_at hl 2 rfl) ?_
      refine lv_iload_n hx hb dX12_lean_59 rfl (lv_at hl 3 rfl) ?_
      refine lv_bipush (v := iI 100) hx hb dX12_lean_60 rfl ?_
      refine xr_sub hx hb dX12_lean_62 ?_
      refine xr_kept (fun z_11 h_12 h_13 => ?_)
      refine px_RX12_402 (y := z_11) hx hb hj hown hK hP hD hS hI q1 ⟨by omega, by omega⟩ dX12_lean_63 (fun v_14 H locs f_15 e_16 o_17 I_18 hP hD hS => ?_)
      refine lv_aload_n hx hb dX12_lean_66 rfl (lv_at hl 2 rfl) ?_
      refine xq_aload_n hx hb dX12_lean_67 rfl (lv_at hl 0 rfl) ?_
      refine jt_q (.ref z_6.toNat) (rv_ref (h_10).1) ?_
      have h_19 : (-2147483648) ≤ v z_6 5 ∧ v z_6 5 ≤ 2147483647 := xf_4_5 hI h_10
      refine gx_RX12_396 (y := v z_6 5) hx hb hj hown hK hP h_10 (fr_use h_10 f_15 rfl) dX12_lean_68 ?_
      refine px_RX12_396 (y := v z_6 5) hx hb hj hown hK hP hD hS I_18 q1 ⟨by omega, by omega⟩ dX12_lean_71 (fun v_20 H locs f_21 e_22 o_23 I_24 hP hD hS => ?_)
      rw [← hQ]
      exact W.vret hx hb hr (fun t ht hW => ⟨⟨v_20, rfl, ⟨I_24, (fr_tr f_21 rfl (fr_tr f_15 rfl fr_rf))⟩, by rw [ht]; exact hP, va_K.moved hW.alike hK, hD⟩, hS.F ht⟩) hS.2.2 dX12_lean_74
    · refine lv_aload_n hx hb dX12_lean_26 rfl (lv_at hl 2 rfl) ?_
      refine lv_iload_n hx hb dX12_lean_27 rfl (lv_at hl 3 rfl) ?_
      refine px_RX12_385 (y := p2) hx hb hj hown hK hP hD hS hI q1 ⟨by omega, by omega⟩ dX12_lean_28 (fun v_25 H locs f_26 e_27 o_28 I_29 hP hD hS => ?_)
      refine lv_aload_n hx hb dX12_lean_31 rfl (lv_at hl 2 rfl) ?_
      refine lv_aload_n hx hb dX12_lean_32 rfl (lv_at hl 1 rfl) ?_
      have h_30 : ok L K (v p0 14) 5 := xf_12_14 hI q0
      refine gx_RX12_66 (y := v p0 14) hx hb hj hown hK hP q0 ((xf_12_14 I_29 q0).1) (fr_use q0 f_26 rfl) dX12_lean_33 ?_
      refine lv_iload_n hx hb dX12_lean_36 rfl (lv_at hl 3 rfl) ?_
      refine lv_aload_n hx hb dX12_lean_37 rfl (lv_at hl 1 rfl) ?_
      have h_31 : 0 ≤ v p0 0 ∧ v p0 0 ≤ 2000 := xf_12_0 hI q0
      refine gx_RX12_133 (y := v p0 0) hx hb hj hown hK hP q0 (fr_use q0 f_26 rfl) dX12_lean_38 ?_
      refine jc_i (va_runV (As := [.int (iI p2), .int (iI (v p0 0))]) (rest := [.ref p1.toNat]) ⟨hx, hb, hml, hown, hts⟩ (sX5_valueOn l dC dI _ L cid K N tW sK sV v_25 (v p0 14) p2 (v p0 0) I_29 h_30 (by omega) (by omega)) (cwV 2 hts (jgoodV m_1105 m_1106 m_1107 m_923 m_1108) rfl rfl rfl (by decide +kernel) ⟨(Nat.le_of_ble_eq_true rfl), (Nat.le_of_ble_eq_true rfl)⟩) ⟨xP_blind, xrecv hK hP h_30 rfl rfl, fun U hU hW => ⟨rfl, xP_of hU hW hP hK hD hX hS (fun _ h => h) hA⟩⟩ rfl rfl hl.1 rfl (lv_room (Nat.le_of_ble_eq_true rfl)) dX12_lean_41 ⟨(Nat.le_of_ble_eq_true rfl), (Nat.le_of_ble_eq_true rfl)⟩) hP hS hA (fun r_32 H locs w_33 hP hS => ?_)
      obtain ⟨z_34, rfl, h_35, h_36⟩ := w_33
      refine px_RX12_399 (y := z_34) hx hb hj hown hK hP hD hS I_29 q1 ⟨by omega, by omega⟩ dX12_lean_44 (fun v_37 H locs f_38 e_39 o_40 I_41 hP hD hS => ?_)
      refine lv_aload_n hx hb dX12_lean_47 rfl (lv_at hl 2 rfl) ?_
      refine lv_aload_n hx hb dX12_lean_48 rfl (lv_at hl 1 rfl) ?_
      have h_42 : 0 ≤ v p0 13 ∧ v p0 13 ≤ 300 := xf_12_13 hI q0
      refine gx_RX12_370 (y := v p0 13) hx hb hj hown hK hP q0 (((fr_use q0 f_38 rfl)).trans (fr_use q0 f_26 rfl)) dX12_lean_49 ?_
      refine px_RX12_396 (y := v p0 13) hx hb hj hown hK hP hD hS I_41 q1 ⟨by omega, by omega⟩ dX12_lean_52 (fun v_43 H locs f_44 e_45 o_46 I_47 hP hD hS => ?_)
      refine lv_goto (tgt := 74) hx hb dX12_lean_55 (by decide) ?_
      rw [← hQ]
      exact W.vret hx hb hr (fun t ht hW => ⟨⟨v_43, rfl, ⟨I_47, (fr_tr f_44 rfl (fr_tr f_38 rfl (fr_tr f_26 rfl fr_rf)))⟩, by rw [ht]; exact hP, va_K.moved hW.alike hK, hD⟩, hS.F ht⟩) hS.2.2 dX12_lean_74
  · refine lv_aload_n hx hb dX12_lean_14 rfl (lv_at hl 2 rfl) ?_
    refine lv_iconst (v := iI (-1)) hx hb dX12_lean_15 rfl ?_
    refine px_RX12_396 (y := (-1)) hx hb hj hown hK hP hD hS hI q1 ⟨by omega, by omega⟩ dX12_lean_16 (fun v_48 H locs f_49 e_50 o_51 I_52 hP hD hS => ?_)
    refine lv_goto (tgt := 74) hx hb dX12_lean_19 (by decide) ?_
    rw [← hQ]
    exact W.vret hx hb hr (fun t ht hW => ⟨⟨v_48, rfl, ⟨I_52, (fr_tr f_49 rfl fr_rf)⟩, by rw [ht]; exact hP, va_K.moved hW.alike hK, hD⟩, hS.F ht⟩) hS.2.2 dX12_lean_74
