set_option maxHeartbeats 2000000 in
set_option maxRecDepth 100000 in
theorem sX12_forget (l : Launch) (dC : Nat → ClassId) (dI : Nat → Nat → Nat) (sz : Nat) (L : List Nat) (cid : Nat → ClassId) (K : Int → Nat) (N : Int → Int) (tW : Nat) (sK sV : Nat → Nat) (v : Int → Int → Int) (p0 : Int) (hI : xI L K N v) (q0 : ok L K p0 12) : Met l yX12_forget (jk yX12_forget cX12_forget 2 (some .int)) ({ frames := 0, cells := 0, slots := 0, locals := 0 }) (va_Pc [.ref p0.toNat] (xP (dC, dI) (xG L cid K N v) (xT cid) tW sK sV sz)) (va_Qi (fun (r : Int32) (u : (Int → Int → Int)) => ∃ z : Int, r = iI z ∧ (xI L K N u) ∧ (fr K [(10, 1)] u v) ∧ (rg z) ∧ (z = v (v p0 19) 1 ∧ u (u p0 19) 1 = 0)) (fun u t => va_P (dC, dI) vwCl (xG L cid K N u) t.heap ∧ va_K (dC, dI) vwCl (xT cid) t ∧ va_D (va_A (xG L cid K N v) sz) (xG L cid K N u)) (va_A (xG L cid K N v) sz)) 0 0 (va_A (xG L cid K N v) sz) := by
  refine Met.ofW (cc := cX12_forget) (maxL := 2) (ret := (some .int)) (by decide) rfl ?_
  intro p e s m args below meth c s₁ B hml hv
  obtain ⟨rfl, ⟨hsz, hP, hK, hD0⟩, hX⟩ := hv
  have hx := B.exec
  have hb := B.bytes
  have hr := B.returns
  have hts := atoms_spec (ws := (jk yX12_forget cX12_forget 2 (some .int))) B.pre
  have hj : ∀ w ∈ jw, w.before ([.ref p0.toNat] : List Value).toArray s = true := fun w h => hts w (jm h)
  have hown : s.vm.findClass RX12 = some m.cls := findClass_of_methodNamed B.named
  subst hsz
  have hD := hD0.self (sz := s.heap.size)
  generalize hAe : (va_A (xG L cid K N v) s.heap.size) = A at hD hX ⊢
  have hA : ∀ q : Nat, s.heap.size ≤ q → A q := fun q h => by rw [← hAe]; exact Or.inr h
  have hS : va_S A s.heap s.heap [] := va_S.rf
  have hXa := hX
  have hP : va_P (dC, dI) vwCl (xG L cid K N v) s.heap := hP
  have hl := lv_entry ([.ref p0.toNat]) (n := 2) (Nat.le_of_ble_eq_true rfl)
  rw [lg_entry_eq]
  generalize (lg_sl ([.ref p0.toNat]) ++ List.replicate (2 - (lg_sl ([.ref p0.toNat])).length) Slot.unset).toArray = ls at hl ⊢
  have hl : lv_has ls 2 [(0, .ref p0.toNat)] := hl
  generalize hQ : MQ below (va_Qi (fun (r : Int32) (u : (Int → Int → Int)) => ∃ z : Int, r = iI z ∧ (xI L K N u) ∧ (fr K [(10, 1)] u v) ∧ (rg z) ∧ (z = v (v p0 19) 1 ∧ u (u p0 19) 1 = 0)) (fun u t => va_P (dC, dI) vwCl (xG L cid K N u) t.heap ∧ va_K (dC, dI) vwCl (xT cid) t ∧ va_D A (xG L cid K N u)) A) ([.ref p0.toNat] : List Value).toArray s 0 0 A = Q
  suffices ST : ∀ (H : Heap) (locs : List Loc), va_P (dC, dI) vwCl (xG L cid K N v) H → va_S A s.heap H locs → W p l e ({ frames := 0, cells := 0, slots := 0, locals := 0 }) s m ([.ref p0.toNat] : List Value).toArray below meth c H locs 0 0 Q (F0 m 0 ls []) from ST _ _ hP hS
  clear hP hS
  intro H locs hP hS
  refine lv_aload_n hx hb dX12_forget_0 rfl (lv_at hl 0 rfl) ?_
  have h_1 : ok L K (v p0 19) 10 := xf_12_19 hI q0
  refine gx_RX12_99 (y := v p0 19) hx hb hj hown hK hP q0 ((xf_12_19 hI q0).1) rfl dX12_forget_1 ?_
  have h_2 : 0 ≤ v (v p0 19) 1 ∧ v (v p0 19) 1 ≤ 30 := xf_10_1 hI h_1
  refine gx_RX12_574 (y := v (v p0 19) 1) hx hb hj hown hK hP h_1 rfl dX12_forget_4 ?_
  refine lv_istore_n (i := 1) (lv' := [(1, .int (iI (v (v p0 19) 1))), (0, .ref p0.toNat)]) hx hb dX12_forget_7 rfl hl (by decide) rfl (fun ls hl => ?_)
  refine lv_aload_n hx hb dX12_forget_8 rfl (lv_at hl 1 rfl) ?_
  refine gx_RX12_99 (y := v p0 19) hx hb hj hown hK hP q0 ((xf_12_19 hI q0).1) rfl dX12_forget_9 ?_
  refine lv_iconst (v := iI 0) hx hb dX12_forget_12 rfl ?_
  refine px_RX12_574 (y := 0) hx hb hj hown hK hP hD hS hI h_1 ⟨by omega, by omega⟩ dX12_forget_13 (fun v_3 H locs f_4 e_5 o_6 I_7 hP hD hS => ?_)
  refine lv_iload_n hx hb dX12_forget_16 rfl (lv_at hl 0 rfl) ?_
  have b_8 : v_3 p0 19 = v p0 19 := (fr_use q0 f_4 rfl)
  have b_9 : v_3 (v p0 19) 1 = 0 := e_5
  have b_10 : v_3 (v_3 p0 19) 1 = 0 := by rw [b_8, b_9]
  rw [← hQ]
  exact W.iret (v := iI (v (v p0 19) 1)) hx hb hr (fun t ht hW => ⟨⟨iI (v (v p0 19) 1), v_3, rfl, ⟨v (v p0 19) 1, rfl, I_7, (fr_tr f_4 rfl fr_rf), by omega, by omega⟩, by rw [ht]; exact hP, va_K.moved hW.alike hK, hD⟩, hS.F ht⟩) hS.2.2 dX12_forget_17
set_option maxHeartbeats 2000000 in
set_option maxRecDepth 100000 in
theorem sX12_thief (l : Launch) (dC : Nat → ClassId) (dI : Nat → Nat → Nat) (sz : Nat) (L : List Nat) (cid : Nat → ClassId) (K : Int → Nat) (N : Int → Int) (tW : Nat) (sK sV : Nat → Nat) (v : Int → Int → Int) (p0 : Int) (p1 : Int) (p2 : Int) (hI : xI L K N v) (q0 : ok L K p0 12) (q1 : rg p1) (q2 : rg p2) : Met l yX12_thief (jk yX12_thief cX12_thief 6 (some .int)) ({ frames := 3, cells := 0, slots := 0, locals := 66 }) (va_Pc [.ref p0.toNat, .int (iI p1), .int (iI p2)] (xP (dC, dI) (xG L cid K N v) (xT cid) tW sK sV sz)) (va_Qi (fun (r : Int32) (u : (Int → Int → Int)) => ∃ z : Int, r = iI z ∧ (xI L K N u) ∧ (fr K [(62, (-1))] u v) ∧ (rg z)) (fun u t => va_P (dC, dI) vwCl (xG L cid K N u) t.heap ∧ va_K (dC, dI) vwCl (xT cid) t ∧ va_D (va_A (xG L cid K N v) sz) (xG L cid K N u)) (va_A (xG L cid K N v) sz)) 0 0 (va_A (xG L cid K N v) sz) := by
  refine Met.ofW (cc := cX12_thief) (maxL := 6) (ret := (some .int)) (by decide) rfl ?_
  intro p e s m args below meth c s₁ B hml hv
  obtain ⟨rfl, ⟨hsz, hP, hK, hD0⟩, hX⟩ := hv
  have hx := B.exec
  have hb := B.bytes
  have hr := B.returns
  have hts := atoms_spec (ws := (jk yX12_thief cX12_thief 6 (some .int))) B.pre
  have hj : ∀ w ∈ jw, w.before ([.ref p0.toNat, .int (iI p1), .int (iI p2)] : List Value).toArray s = true := fun w h => hts w (jm h)
  have hown : s.vm.findClass RX12 = some m.cls := findClass_of_methodNamed B.named
  subst hsz
  have hD := hD0.self (sz := s.heap.size)
  generalize hAe : (va_A (xG L cid K N v) s.heap.size) = A at hD hX ⊢
  have hA : ∀ q : Nat, s.heap.size ≤ q → A q := fun q h => by rw [← hAe]; exact Or.inr h
  have hS : va_S A s.heap s.heap [] := va_S.rf
  have hXa := hX
  have hP : va_P (dC, dI) vwCl (xG L cid K N v) s.heap := hP
  have hl := lv_entry ([.ref p0.toNat, .int (iI p1), .int (iI p2)]) (n := 6) (Nat.le_of_ble_eq_true rfl)
  rw [lg_entry_eq]
  generalize (lg_sl ([.ref p0.toNat, .int (iI p1), .int (iI p2)]) ++ List.replicate (6 - (lg_sl ([.ref p0.toNat, .int (iI p1), .int (iI p2)])).length) Slot.unset).toArray = ls at hl ⊢
  have hl : lv_has ls 6 [(0, .ref p0.toNat), (1, .int (iI p1)), (2, .int (iI p2))] := hl
  generalize hQ : MQ below (va_Qi (fun (r : Int32) (u : (Int → Int → Int)) => ∃ z : Int, r = iI z ∧ (xI L K N u) ∧ (fr K [(62, (-1))] u v) ∧ (rg z)) (fun u t => va_P (dC, dI) vwCl (xG L cid K N u) t.heap ∧ va_K (dC, dI) vwCl (xT cid) t ∧ va_D A (xG L cid K N u)) A) ([.ref p0.toNat, .int (iI p1), .int (iI p2)] : List Value).toArray s 0 0 A = Q
  suffices ST : ∀ (H : Heap) (locs : List Loc), va_P (dC, dI) vwCl (xG L cid K N v) H → va_S A s.heap H locs → W p l e ({ frames := 3, cells := 0, slots := 0, locals := 66 }) s m ([.ref p0.toNat, .int (iI p1), .int (iI p2)] : List Value).toArray below meth c H locs 0 0 Q (F0 m 0 ls []) from ST _ _ hP hS
  clear hP hS
  intro H locs hP hS
  refine lv_aload_n hx hb dX12_thief_0 rfl (lv_at hl 0 rfl) ?_
  refine lv_iload_n hx hb dX12_thief_1 rfl (lv_at hl 1 rfl) ?_
  refine jc_q (va_runV (As := [.int (iI p1)]) (rest := []) ⟨hx, hb, hml, hown, hts⟩ (sX12_setVolumeAt l dC dI _ L cid K N tW sK sV v p0 p1 hI q0 (by omega)) (cwV 1 hts (jgoodV m_1174 m_1175 m_1176 m_873 m_1177) rfl rfl rfl (by decide +kernel) ⟨(Nat.le_of_ble_eq_true rfl), (Nat.le_of_ble_eq_true rfl)⟩) ⟨xP_blind, xrecv hK hP q0 rfl rfl, fun U hU hW => ⟨rfl, xP_of hU hW hP hK hD hX hS (fun _ h => h) hA⟩⟩ rfl rfl hl.1 rfl (lv_room (Nat.le_of_ble_eq_true rfl)) dX12_thief_2 ⟨(Nat.le_of_ble_eq_true rfl), (Nat.le_of_ble_eq_true rfl)⟩) hP hS hA (fun r_1 H locs w_2 hP hS => ?_)
  obtain ⟨z_3, rfl, h_4⟩ := w_2
  refine jt_q (rv z_3) rfl ?_
  refine xq_astore_n (i := 3) (lv' := [(3, rv z_3), (0, .ref p0.toNat), (1, .int (iI p1)), (2, .int (iI p2))]) hx hb dX12_thief_5 rfl hl (by decide) rfl (fun ls hl => ?_)
  refine xq_aload_n hx hb dX12_thief_6 rfl (lv_at hl 0 rfl) ?_
  refine xq_ifnull (tgt := 19) hx hb dX12_thief_7 (by decide) (fun h_5 => ?_) (fun h_5 => ?_)
  · refine lv_iconst (v := iI (-1)) hx hb dX12_thief_19 rfl ?_
    rw [← hQ]
    exact W.iret (v := iI (-1)) hx hb hr (fun t ht hW => ⟨⟨iI (-1), v, rfl, ⟨(-1), rfl, hI, fr_rf, by omega⟩, by rw [ht]; exact hP, va_K.moved hW.alike hK, hD⟩, hS.F ht⟩) hS.2.2 dX12_thief_20
  · have h_6 : ok L K z_3 11 := h_4.resolve_left (by omega)
    refine lv_iload_n hx hb dX12_thief_10 rfl (lv_at hl 3 rfl) ?_
    refine xr_if_lt (tgt := 19) hx hb dX12_thief_11 (by decide) (by omega) (fun h_7 => ?_) (fun h_7 => ?_)
    · refine lv_iconst (v := iI (-1)) hx hb dX12_thief_19 rfl ?_
      rw [← hQ]
      exact W.iret (v := iI (-1)) hx hb hr (fun t ht hW => ⟨⟨iI (-1), v, rfl, ⟨(-1), rfl, hI, fr_rf, by omega⟩, by rw [ht]; exact hP, va_K.moved hW.alike hK, hD⟩, hS.F ht⟩) hS.2.2 dX12_thief_20
    · refine lv_iload_n hx hb dX12_thief_14 rfl (lv_at hl 3 rfl) ?_
      refine lv_iconst (v := iI 1) hx hb dX12_thief_15 rfl ?_
      refine xr_icmp_le (tgt := 21) hx hb dX12_thief_16 (by decide) (by omega) (by omega) (fun h_8 => ?_) (fun h_8 => ?_)
      · refine lv_aload_n hx hb dX12_thief_21 rfl (lv_at hl 1 rfl) ?_
        have h_9 : ok L K (v p0 19) 10 := xf_12_19 hI q0
        refine gx_RX12_99 (y := v p0 19) hx hb hj hown hK hP q0 ((xf_12_19 hI q0).1) rfl dX12_thief_22 ?_
        refine jcg_v (va_runV (As := []) (rest := []) ⟨hx, hb, hml, hown, hts⟩ (sX10_begin l dC dI _ L cid K N tW sK sV v (v p0 19) hI h_9) (cwV 0 hts (jgoodV m_1266 m_1267 m_1268 m_971 m_1269) rfl rfl rfl (by decide +kernel) ⟨(Nat.le_of_ble_eq_true rfl), (Nat.le_of_ble_eq_true rfl)⟩) ⟨xP_blind, xrecv hK hP h_9 rfl rfl, fun U hU hW => ⟨rfl, xP_of hU hW hP hK hD hX hS (fun _ h => h) hA⟩⟩ rfl rfl hl.1 rfl (lv_room (Nat.le_of_ble_eq_true rfl)) dX12_thief_25 ⟨(Nat.le_of_ble_eq_true rfl), (Nat.le_of_ble_eq_true rfl)⟩) hD hS hA (fun v_13 H locs w_11 hP hK hD hS => ?_)
        obtain ⟨I_15, f_14⟩ := w_11
        have hP : va_P (dC, dI) vwCl (xG L cid K N v_13) H := hP
        have hD : va_D A (xG L cid K N v_13) := hD
        refine lv_iconst (v := iI 0) hx hb dX12_thief_28 rfl ?_
        refine lv_istore (i := 4) (lv' := [(4, .int (iI 0)), (3, rv z_3), (0, .ref p0.toNat), (1, .int (iI p1)), (2, .int (iI p2))]) hx hb dX12_thief_29 hl (by decide) (by simp [rv_cat]) (fun ls hl => ?_)
        have L31 : ∀ (n31 : Nat) (a4_31 : Int) (vc31 : Int → Int → Int) (H : Heap) (locs : List Loc) (ls : Array Slot), (0 ≤ a4_31 ∧ a4_31 ≤ 2147483647) → (0 < (n31 : Int) ∧ (v z_3 4) - a4_31 < (n31 : Int)) → fr K [(62, (-1))] vc31 v_13 → xI L K N vc31 → va_P (dC, dI) vwCl (xG L cid K N vc31) H → va_D A (xG L cid K N vc31) → va_S A s.heap H locs → lv_has ls 6 [(4, .int (iI a4_31)), (3, rv z_3), (0, .ref p0.toNat), (1, .int (iI p1)), (2, .int (iI p2))] → W p l e ({ frames := 3, cells := 0, slots := 0, locals := 66 }) s m ([.ref p0.toNat, .int (iI p1), .int (iI p2)] : List Value).toArray below meth c H locs 0 0 Q (F0 m 31 ls []) := by
          intro n31
          induction n31 with
          | zero =>
            intro a4_31 vc31 H locs ls h_16 hm31 f_17 I_18 hP hD hS hl
            exfalso; omega
          | succ n31 ih31 =>
            intro a4_31 vc31 H locs ls h_19 hm31 f_20 I_21 hP hD hS hl
            refine lv_iload hx hb dX12_thief_31 (lv_at hl 0 rfl) ?_
            refine xq_aload_n hx hb dX12_thief_33 rfl (lv_at hl 1 rfl) ?_
            refine jt_q (.ref z_3.toNat) (rv_ref (h_6).1) ?_
            have h_22 : 0 ≤ v z_3 4 ∧ v z_3 4 ≤ 12000 := xf_11_4 hI h_6
            refine gx_RX12_563 (y := v z_3 4) hx hb hj hown hK hP h_6 (((fr_use h_6 f_20 rfl)).trans (fr_use h_6 f_14 rfl)) dX12_thief_34 ?_
            refine xr_icmp_ge (tgt := 113) hx hb dX12_thief_37 (by decide) (by omega) (by omega) (fun h_23 => ?_) (fun h_23 => ?_)
            · refine lv_iload_n hx hb dX12_thief_113 rfl (lv_at hl 4 rfl) ?_
              refine xr_if_ne (tgt := 127) hx hb dX12_thief_114 (by decide) (by omega) (fun h_24 => ?_) (fun h_24 => ?_)
              · refine lv_aload_n hx hb dX12_thief_127 rfl (lv_at hl 2 rfl) ?_
                refine gx_RX12_99 (y := v p0 19) hx hb hj hown hK hP q0 ((xf_12_19 I_21 q0).1) (((fr_use q0 f_20 rfl)).trans (fr_use q0 f_14 rfl)) dX12_thief_128 ?_
                refine jc_i (va_runV (As := []) (rest := []) ⟨hx, hb, hml, hown, hts⟩ (sX10_shared l dC dI _ L cid K N tW sK sV vc31 (v p0 19) I_21 h_9) (cwV 0 hts (jgoodV m_1270 m_1271 m_1272 m_971 m_1273) rfl rfl rfl (by decide +kernel) ⟨(Nat.le_of_ble_eq_true rfl), (Nat.le_of_ble_eq_true rfl)⟩) ⟨xP_blind, xrecv hK hP h_9 rfl rfl, fun U hU hW => ⟨rfl, xP_of hU hW hP hK hD hX hS (fun _ h => h) hA⟩⟩ rfl rfl hl.1 rfl (lv_room (Nat.le_of_ble_eq_true rfl)) dX12_thief_131 ⟨(Nat.le_of_ble_eq_true rfl), (Nat.le_of_ble_eq_true rfl)⟩) hP hS hA (fun r_25 H locs w_26 hP hS => ?_)
                obtain ⟨z_27, rfl, h_28⟩ := w_26
                rw [← hQ]
                exact W.iret (v := iI z_27) hx hb hr (fun t ht hW => ⟨⟨iI z_27, vc31, rfl, ⟨z_27, rfl, I_21, (fr_tr f_20 rfl (fr_tr f_14 rfl fr_rf)), by omega⟩, by rw [ht]; exact hP, va_K.moved hW.alike hK, hD⟩, hS.F ht⟩) hS.2.2 dX12_thief_134
              · refine lv_aload_n hx hb dX12_thief_117 rfl (lv_at hl 2 rfl) ?_
                refine gx_RX12_99 (y := v p0 19) hx hb hj hown hK hP q0 ((xf_12_19 I_21 q0).1) (((fr_use q0 f_20 rfl)).trans (fr_use q0 f_14 rfl)) dX12_thief_118 ?_
                refine jc_i (va_runV (As := []) (rest := []) ⟨hx, hb, hml, hown, hts⟩ (sX10_changes l dC dI _ L cid K N tW sK sV vc31 (v p0 19) I_21 h_9) (cwV 0 hts (jgoodV m_1274 m_974 m_975 m_971 m_976) rfl rfl rfl (by decide +kernel) ⟨(Nat.le_of_ble_eq_true rfl), (Nat.le_of_ble_eq_true rfl)⟩) ⟨xP_blind, xrecv hK hP h_9 rfl rfl, fun U hU hW => ⟨rfl, xP_of hU hW hP hK hD hX hS (fun _ h => h) hA⟩⟩ rfl rfl hl.1 rfl (lv_room (Nat.le_of_ble_eq_true rfl)) dX12_thief_121 ⟨(Nat.le_of_ble_eq_true rfl), (Nat.le_of_ble_eq_true rfl)⟩) hP hS hA (fun r_29 H locs w_30 hP hS => ?_)
                obtain ⟨z_31, rfl, h_32⟩ := w_30
                refine lv_goto (tgt := 134) hx hb dX12_thief_124 (by decide) ?_
                rw [← hQ]
                exact W.iret (v := iI z_31) hx hb hr (fun t ht hW => ⟨⟨iI z_31, vc31, rfl, ⟨z_31, rfl, I_21, (fr_tr f_20 rfl (fr_tr f_14 rfl fr_rf)), by omega⟩, by rw [ht]; exact hP, va_K.moved hW.alike hK, hD⟩, hS.F ht⟩) hS.2.2 dX12_thief_134
            · refine lv_aload_n hx hb dX12_thief_40 rfl (lv_at hl 2 rfl) ?_
              refine xq_aload_n hx hb dX12_thief_41 rfl (lv_at hl 1 rfl) ?_
              refine jt_q (.ref z_3.toNat) (rv_ref (h_6).1) ?_
              refine lv_iload hx hb dX12_thief_42 (lv_at hl 0 rfl) ?_
              refine jc_i (va_runV (As := [.int (iI a4_31)]) (rest := [.ref p0.toNat]) ⟨hx, hb, hml, hown, hts⟩ (sX11_laidAt l dC dI _ L cid K N tW sK sV vc31 z_3 a4_31 I_21 h_6 (by omega)) (cwV 1 hts (jgoodV m_1258 m_1259 m_1260 m_1156 m_1261) rfl rfl rfl (by decide +kernel) ⟨(Nat.le_of_ble_eq_true rfl), (Nat.le_of_ble_eq_true rfl)⟩) ⟨xP_blind, xrecv hK hP h_6 rfl rfl, fun U hU hW => ⟨rfl, xP_of hU hW hP hK hD hX hS (fun _ h => h) hA⟩⟩ rfl rfl hl.1 rfl (lv_room (Nat.le_of_ble_eq_true rfl)) dX12_thief_44 ⟨(Nat.le_of_ble_eq_true rfl), (Nat.le_of_ble_eq_true rfl)⟩) hP hS hA (fun r_33 H locs w_34 hP hS => ?_)
              obtain ⟨z_35, rfl, h_36⟩ := w_34
              refine jc_q (va_runV (As := [.int (iI z_35)]) (rest := []) ⟨hx, hb, hml, hown, hts⟩ (sX12_lineAt l dC dI _ L cid K N tW sK sV vc31 p0 z_35 I_21 q0 (by omega)) (cwV 1 hts (jgoodV m_1109 m_1110 m_1111 m_873 m_1112) rfl rfl rfl (by decide +kernel) ⟨(Nat.le_of_ble_eq_true rfl), (Nat.le_of_ble_eq_true rfl)⟩) ⟨xP_blind, xrecv hK hP q0 rfl rfl, fun U hU hW => ⟨rfl, xP_of hU hW hP hK hD hX hS (fun _ h => h) hA⟩⟩ rfl rfl hl.1 rfl (lv_room (Nat.le_of_ble_eq_true rfl)) dX12_thief_47 ⟨(Nat.le_of_ble_eq_true rfl), (Nat.le_of_ble_eq_true rfl)⟩) hP hS hA (fun r_37 H locs w_38 hP hS => ?_)
              obtain ⟨z_39, rfl, h_40⟩ := w_38
              refine jt_q (rv z_39) rfl ?_
              refine xq_astore (i := 5) (lv' := [(5, rv z_39), (4, .int (iI a4_31)), (3, rv z_3), (0, .ref p0.toNat), (1, .int (iI p1)), (2, .int (iI p2))]) hx hb dX12_thief_50 hl (by decide) rfl (fun ls hl => ?_)
              refine xq_aload hx hb dX12_thief_52 (lv_at hl 0 rfl) ?_
              have J107 : ∀ (vc107 : Int → Int → Int) (H : Heap) (locs : List Loc) (ls : Array Slot), fr K [(62, (-1))] vc107 vc31 → xI L K N vc107 → va_P (dC, dI) vwCl (xG L cid K N vc107) H → va_D A (xG L cid K N vc107) → va_S A s.heap H locs → lv_has ls 6 [(5, rv z_39), (4, .int (iI a4_31)), (3, rv z_3), (0, .ref p0.toNat), (1, .int (iI p1)), (2, .int (iI p2))] → W p l e ({ frames := 3, cells := 0, slots := 0, locals := 66 }) s m ([.ref p0.toNat, .int (iI p1), .int (iI p2)] : List Value).toArray below meth c H locs 0 0 Q (F0 m 107 ls []) := by
                intro vc107 H locs ls f_41 I_42 hP hD hS hl
                refine lv_iinc (v := iI (a4_31 + 1)) (lv' := [(4, .int (iI (a4_31 + 1))), (5, rv z_39), (3, rv z_3), (0, .ref p0.toNat), (1, .int (iI p1)), (2, .int (iI p2))]) hx hb dX12_thief_107 hl (k := 1) rfl (iI_add _ _) (by decide) (by simp [rv_cat]) (fun ls hl => ?_)
                refine lv_goto (tgt := 31) hx hb dX12_thief_110 (by decide) ?_
                exact ih31 (a4_31 + 1) vc107 H locs ls (by omega) (by omega) (fr_tr f_41 rfl (fr_tr f_20 rfl fr_rf)) I_42 hP hD hS (lv_sub hl [0, 2, 3, 4, 5] rfl)
              refine xq_ifnull (tgt := 107) hx hb dX12_thief_54 (by decide) (fun h_43 => ?_) (fun h_43 => ?_)
              · exact J107 vc31 H locs ls fr_rf I_21 hP hD hS hl
              · have h_44 : ok L K z_39 4 := h_40.resolve_left (by omega)
                refine xq_aload hx hb dX12_thief_57 (lv_at hl 0 rfl) ?_
                refine jt_q (.ref z_39.toNat) (rv_ref (h_44).1) ?_
                have h_45 : (-2147483648) ≤ v z_39 3 ∧ v z_39 3 ≤ 2147483647 := xf_4_3 hI h_44
                refine gx_RX12_385 (y := v z_39 3) hx hb hj hown hK hP h_44 (((fr_use h_44 f_20 rfl)).trans (fr_use h_44 f_14 rfl)) dX12_thief_59 ?_
                refine lv_iconst (v := iI (-1)) hx hb dX12_thief_62 rfl ?_
                refine xr_icmp_eq (tgt := 107) hx hb dX12_thief_63 (by decide) (by omega) (by omega) (fun h_46 => ?_) (fun h_46 => ?_)
                · exact J107 vc31 H locs ls fr_rf I_21 hP hD hS hl
                · refine lv_aload_n hx hb dX12_thief_66 rfl (lv_at hl 3 rfl) ?_
                  refine gx_RX12_99 (y := v p0 19) hx hb hj hown hK hP q0 ((xf_12_19 I_21 q0).1) (((fr_use q0 f_20 rfl)).trans (fr_use q0 f_14 rfl)) dX12_thief_67 ?_
                  refine xq_aload hx hb dX12_thief_70 (lv_at hl 0 rfl) ?_
                  refine jt_q (.ref z_39.toNat) (rv_ref (h_44).1) ?_
                  have h_47 : (-2147483648) ≤ v z_39 6 ∧ v z_39 6 ≤ 2147483647 := xf_4_6 hI h_44
                  refine gx_RX12_399 (y := v z_39 6) hx hb hj hown hK hP h_44 (((fr_use h_44 f_20 rfl)).trans (fr_use h_44 f_14 rfl)) dX12_thief_72 ?_
                  refine lv_aload_n hx hb dX12_thief_75 rfl (lv_at hl 3 rfl) ?_
                  have h_48 : ok L K (v p0 14) 5 := xf_12_14 hI q0
                  refine gx_RX12_66 (y := v p0 14) hx hb hj hown hK hP q0 ((xf_12_14 I_21 q0).1) (((fr_use q0 f_20 rfl)).trans (fr_use q0 f_14 rfl)) dX12_thief_76 ?_
                  refine xq_aload hx hb dX12_thief_79 (lv_at hl 0 rfl) ?_
                  refine jt_q (.ref z_39.toNat) (rv_ref (h_44).1) ?_
                  refine gx_RX12_385 (y := v z_39 3) hx hb hj hown hK hP h_44 (((fr_use h_44 f_20 rfl)).trans (fr_use h_44 f_14 rfl)) dX12_thief_81 ?_
                  refine lv_aload_n hx hb dX12_thief_84 rfl (lv_at hl 3 rfl) ?_
                  have h_49 : 0 ≤ v p0 0 ∧ v p0 0 ≤ 2000 := xf_12_0 hI q0
                  refine gx_RX12_133 (y := v p0 0) hx hb hj hown hK hP q0 (((fr_use q0 f_20 rfl)).trans (fr_use q0 f_14 rfl)) dX12_thief_85 ?_
                  refine jc_i (va_runV (As := [.int (iI (v z_39 3)), .int (iI (v p0 0))]) (rest := [.int (iI (v z_39 6)), .ref (v p0 19).toNat]) ⟨hx, hb, hml, hown, hts⟩ (sX5_valueOn l dC dI _ L cid K N tW sK sV vc31 (v p0 14) (v z_39 3) (v p0 0) I_21 h_48 (by omega) (by omega)) (cwV 2 hts (jgoodV m_1105 m_1106 m_1107 m_923 m_1108) rfl rfl rfl (by decide +kernel) ⟨(Nat.le_of_ble_eq_true rfl), (Nat.le_of_ble_eq_true rfl)⟩) ⟨xP_blind, xrecv hK hP h_48 rfl rfl, fun U hU hW => ⟨rfl, xP_of hU hW hP hK hD hX hS (fun _ h => h) hA⟩⟩ rfl rfl hl.1 rfl (lv_room (Nat.le_of_ble_eq_true rfl)) dX12_thief_88 ⟨(Nat.le_of_ble_eq_true rfl), (Nat.le_of_ble_eq_true rfl)⟩) hP hS hA (fun r_50 H locs w_51 hP hS => ?_)
                  obtain ⟨z_52, rfl, h_53, h_54⟩ := w_51
                  refine xq_aload hx hb dX12_thief_91 (lv_at hl 0 rfl) ?_
                  refine jt_q (.ref z_39.toNat) (rv_ref (h_44).1) ?_
                  refine gx_RX12_399 (y := v z_39 6) hx hb hj hown hK hP h_44 (((fr_use h_44 f_20 rfl)).trans (fr_use h_44 f_14 rfl)) dX12_thief_93 ?_
                  have J104 : ∀ (s0_104 : Int) (H : Heap) (locs : List Loc) (ls : Array Slot), (0 ≤ s0_104 ∧ s0_104 ≤ 1) → va_P (dC, dI) vwCl (xG L cid K N vc31) H → va_D A (xG L cid K N vc31) → va_S A s.heap H locs → lv_has ls 6 [(5, rv z_39), (4, .int (iI a4_31)), (3, rv z_3), (0, .ref p0.toNat), (1, .int (iI p1)), (2, .int (iI p2))] → W p l e ({ frames := 3, cells := 0, slots := 0, locals := 66 }) s m ([.ref p0.toNat, .int (iI p1), .int (iI p2)] : List Value).toArray below meth c H locs 0 0 Q (F0 m 104 ls [.int (iI s0_104), .int (iI (v z_39 6)), .ref (v p0 19).toNat]) := by
                    intro s0_104 H locs ls h_55 hP hD hS hl
                    refine jcg_v (va_runV (As := [.int (iI (v z_39 6)), .int (iI s0_104)]) (rest := []) ⟨hx, hb, hml, hown, hts⟩ (sX10_meet l dC dI _ L cid K N tW sK sV vc31 (v p0 19) (v z_39 6) s0_104 I_21 h_9 (by omega) (by omega)) (cwV 2 hts (jgoodV m_1275 m_1276 m_1277 m_971 m_1278) rfl rfl rfl (by decide +kernel) ⟨(Nat.le_of_ble_eq_true rfl), (Nat.le_of_ble_eq_true rfl)⟩) ⟨xP_blind, xrecv hK hP h_9 rfl rfl, fun U hU hW => ⟨rfl, xP_of hU hW hP hK hD hX hS (fun _ h => h) hA⟩⟩ rfl rfl hl.1 rfl (lv_room (Nat.le_of_ble_eq_true rfl)) dX12_thief_104 ⟨(Nat.le_of_ble_eq_true rfl), (Nat.le_of_ble_eq_true rfl)⟩) hD hS hA (fun v_59 H locs w_57 hP hK hD hS => ?_)
                    obtain ⟨I_61, f_60⟩ := w_57
                    have hP : va_P (dC, dI) vwCl (xG L cid K N v_59) H := hP
                    have hD : va_D A (xG L cid K N v_59) := hD
                    exact J107 v_59 H locs ls (fr_tr f_60 rfl fr_rf) I_61 hP hD hS hl
                  refine xr_icmp_eq (tgt := 103) hx hb dX12_thief_96 (by decide) (by omega) (by omega) (fun h_62 => ?_) (fun h_62 => ?_)
                  · refine lv_iconst (v := iI 0) hx hb dX12_thief_103 rfl ?_
                    exact J104 0 H locs ls (by omega) hP hD hS hl
                  · refine lv_iconst (v := iI 1) hx hb dX12_thief_99 rfl ?_
                    refine lv_goto (tgt := 104) hx hb dX12_thief_100 (by decide) ?_
                    exact J104 1 H locs ls (by omega) hP hD hS hl
        exact L31 ((((v z_3 4) - 0 : Int)).toNat + 1) 0 v_13 H locs ls (by omega) (by omega) fr_rf I_15 hP hD hS hl
      · refine lv_iconst (v := iI (-1)) hx hb dX12_thief_19 rfl ?_
        rw [← hQ]
        exact W.iret (v := iI (-1)) hx hb hr (fun t ht hW => ⟨⟨iI (-1), v, rfl, ⟨(-1), rfl, hI, fr_rf, by omega⟩, by rw [ht]; exact hP, va_K.moved hW.alike hK, hD⟩, hS.F ht⟩) hS.2.2 dX12_thief_20
set_option maxHeartbeats 2000000 in
set_option maxRecDepth 100000 in
theorem sX12_ofArticle (l : Launch) (dC : Nat → ClassId) (dI : Nat → Nat → Nat) (sz : Nat) (L : List Nat) (cid : Nat → ClassId) (K : Int → Nat) (N : Int → Int) (tW : Nat) (sK sV : Nat → Nat) (v : Int → Int → Int) (p0 : Int) (p1 : Int) (p2 : Int) (hI : xI L K N v) (q0 : ok L K p0 12) (q1 : ok L K p1 0) (q2 : rg p2) : Met l yX12_ofArticle (jk yX12_ofArticle cX12_ofArticle 3 (some .int)) ({ frames := 2, cells := 0, slots := 0, locals := 43 }) (va_Pc [.ref p0.toNat, .ref p1.toNat, .int (iI p2)] (xP (dC, dI) (xG L cid K N v) (xT cid) tW sK sV sz)) (va_Qi (fun (r : Int32) (_ : Unit) => ∃ z : Int, r = iI z ∧ (rg z)) (fun _ _ => True) (va_A [] sz)) 0 0 (va_A [] sz) := by
  sorry
set_option maxHeartbeats 2000000 in
set_option maxRecDepth 100000 in
theorem sX12_is (l : Launch) (dC : Nat → ClassId) (dI : Nat → Nat → Nat) (sz : Nat) (L : List Nat) (cid : Nat → ClassId) (K : Int → Nat) (N : Int → Int) (tW : Nat) (sK sV : Nat → Nat) (v : Int → Int → Int) (p0 : Int) (p1 : Int) (p2 : Int) (hI : xI L K N v) (q0 : ok L K p0 12) (q1 : rg p1) (q2 : rg p2) : Met l yX12_is (jk yX12_is cX12_is 4 (some .int)) ({ frames := 3, cells := 0, slots := 0, locals := 65 }) (va_Pc [.ref p0.toNat, .int (iI p1), .int (iI p2)] (xP (dC, dI) (xG L cid K N v) (xT cid) tW sK sV sz)) (va_Qi (fun (r : Int32) (_ : Unit) => ∃ z : Int, r = iI z ∧ (rg z)) (fun _ _ => True) (va_A [] sz)) 0 0 (va_A [] sz) := by
  sorry
set_option maxHeartbeats 2000000 in
set_option maxRecDepth 100000 in
theorem sX12_payOfAll (l : Launch) (dC : Nat → ClassId) (dI : Nat → Nat → Nat) (sz : Nat) (L : List Nat) (cid : Nat → ClassId) (K : Int → Nat) (N : Int → Int) (tW : Nat) (sK sV : Nat → Nat) (v : Int → Int → Int) (p0 : Int) (hI : xI L K N v) (q0 : ok L K p0 12) : Met l yX12_payOfAll (jk yX12_payOfAll cX12_payOfAll 4 (some .int)) ({ frames := 1, cells := 0, slots := 0, locals := 21 }) (va_Pc [.ref p0.toNat] (xP (dC, dI) (xG L cid K N v) (xT cid) tW sK sV sz)) (va_Qi (fun (r : Int32) (_ : Unit) => ∃ z : Int, r = iI z ∧ (rg z)) (fun _ _ => True) (va_A [] sz)) 0 0 (va_A [] sz) := by
  refine Met.ofW (cc := cX12_payOfAll) (maxL := 4) (ret := (some .int)) (by decide) rfl ?_
  intro p e s m args below meth c s₁ B hml hv
  obtain ⟨rfl, ⟨hsz, hP, hK, hD0⟩, hX⟩ := hv
  have hx := B.exec
  have hb := B.bytes
  have hr := B.returns
  have hts := atoms_spec (ws := (jk yX12_payOfAll cX12_payOfAll 4 (some .int))) B.pre
  have hj : ∀ w ∈ jw, w.before ([.ref p0.toNat] : List Value).toArray s = true := fun w h => hts w (jm h)
  have hown : s.vm.findClass RX12 = some m.cls := findClass_of_methodNamed B.named
  subst hsz
  have hDw := hD0.self (sz := s.heap.size)
  have hAA : ∀ q : Nat, s.heap.size ≤ q → va_A (xG L cid K N v) s.heap.size q := fun q h => Or.inr h
  have hAw : ∀ q, va_A [] s.heap.size q → va_A (xG L cid K N v) s.heap.size q := ja_nil va_S.rf hAA
  generalize hAe : (va_A [] s.heap.size) = A at hAw ⊢
  have hA : ∀ q : Nat, s.heap.size ≤ q → A q := fun q h => by rw [← hAe]; exact Or.inr h
  have hS : va_S A s.heap s.heap [] := va_S.rf
  have hXa := hX.nar hAw
  have hP : va_P (dC, dI) vwCl (xG L cid K N v) s.heap := hP
  have hl := lv_entry ([.ref p0.toNat]) (n := 4) (Nat.le_of_ble_eq_true rfl)
  rw [lg_entry_eq]
  generalize (lg_sl ([.ref p0.toNat]) ++ List.replicate (4 - (lg_sl ([.ref p0.toNat])).length) Slot.unset).toArray = ls at hl ⊢
  have hl : lv_has ls 4 [(0, .ref p0.toNat)] := hl
  generalize hQ : MQ below (va_Qi (fun (r : Int32) (_ : Unit) => ∃ z : Int, r = iI z ∧ (rg z)) (fun _ _ => True) A) ([.ref p0.toNat] : List Value).toArray s 0 0 A = Q
  suffices ST : ∀ (H : Heap) (locs : List Loc), va_P (dC, dI) vwCl (xG L cid K N v) H → va_S A s.heap H locs → W p l e ({ frames := 1, cells := 0, slots := 0, locals := 21 }) s m ([.ref p0.toNat] : List Value).toArray below meth c H locs 0 0 Q (F0 m 0 ls []) from ST _ _ hP hS
  clear hP hS
  intro H locs hP hS
  refine lv_iconst (v := iI 0) hx hb dX12_payOfAll_0 rfl ?_
  refine lv_istore_n (i := 1) (lv' := [(1, .int (iI 0)), (0, .ref p0.toNat)]) hx hb dX12_payOfAll_1 rfl hl (by decide) rfl (fun ls hl => ?_)
  refine lv_iconst (v := iI 0) hx hb dX12_payOfAll_2 rfl ?_
  refine lv_istore_n (i := 2) (lv' := [(2, .int (iI 0)), (1, .int (iI 0)), (0, .ref p0.toNat)]) hx hb dX12_payOfAll_3 rfl hl (by decide) rfl (fun ls hl => ?_)
  have L4 : ∀ (n4 : Nat) (a2_4 a1_4 : Int) (H : Heap) (locs : List Loc) (ls : Array Slot), (0 ≤ a2_4 ∧ a2_4 ≤ 2147483647) → ((-2147483648) ≤ a1_4 ∧ a1_4 ≤ 2147483647) → (0 < (n4 : Int) ∧ (v p0 11) - a2_4 < (n4 : Int)) → va_P (dC, dI) vwCl (xG L cid K N v) H → va_S A s.heap H locs → lv_has ls 4 [(2, .int (iI a2_4)), (1, .int (iI a1_4)), (0, .ref p0.toNat)] → W p l e ({ frames := 1, cells := 0, slots := 0, locals := 21 }) s m ([.ref p0.toNat] : List Value).toArray below meth c H locs 0 0 Q (F0 m 4 ls []) := by
    intro n4
    induction n4 with
    | zero =>
      intro a2_4 a1_4 H locs ls h_1 h_2 hm4 hP hS hl
      exfalso; omega
    | succ n4 ih4 =>
      intro a2_4 a1_4 H locs ls h_3 h_4 hm4 hP hS hl
      refine lv_iload_n hx hb dX12_payOfAll_4 rfl (lv_at hl 0 rfl) ?_
      refine lv_aload_n hx hb dX12_payOfAll_5 rfl (lv_at hl 2 rfl) ?_
      have h_5 : 0 ≤ v p0 11 ∧ v p0 11 ≤ 12 := xf_12_11 hI q0
      refine gx_RX12_292 (y := v p0 11) hx hb hj hown hK hP q0 rfl dX12_payOfAll_6 ?_
      refine xr_icmp_ge (tgt := 39) hx hb dX12_payOfAll_9 (by decide) (by omega) (by omega) (fun h_6 => ?_) (fun h_6 => ?_)
      · refine lv_iload_n hx hb dX12_payOfAll_39 rfl (lv_at hl 1 rfl) ?_
        rw [← hQ]
        exact W.iret (v := iI a1_4) hx hb hr (fun t ht hW => ⟨⟨iI a1_4, (), rfl, ⟨a1_4, rfl, by omega⟩, trivial⟩, hS.F ht⟩) hS.2.2 dX12_payOfAll_40
      · refine lv_aload_n hx hb dX12_payOfAll_12 rfl (lv_at hl 2 rfl) ?_
        refine lv_iload_n hx hb dX12_payOfAll_13 rfl (lv_at hl 0 rfl) ?_
        refine jc_q (va_runV (As := [.int (iI a2_4)]) (rest := []) ⟨hx, hb, hml, hown, hts⟩ (sX12_handAt l dC dI _ L cid K N tW sK sV v p0 a2_4 hI q0 (by omega)) (cwV 1 hts (jgoodV m_1056 m_1057 m_1058 m_873 m_1059) rfl rfl rfl (by decide +kernel) ⟨(Nat.le_of_ble_eq_true rfl), (Nat.le_of_ble_eq_true rfl)⟩) ⟨xP_blind, xrecv hK hP q0 rfl rfl, fun U hU hW => ⟨rfl, xP_of hU hW hP hK hDw hX hS hAw hAA⟩⟩ rfl rfl hl.1 rfl (lv_room (Nat.le_of_ble_eq_true rfl)) dX12_payOfAll_14 ⟨(Nat.le_of_ble_eq_true rfl), (Nat.le_of_ble_eq_true rfl)⟩) hP hS hA (fun r_7 H locs w_8 hP hS => ?_)
        obtain ⟨z_9, rfl, h_10, h_11⟩ := w_8
        have h_12 : ok L K (v p0 10) 38 := xf_12_10 hI q0
        have h_13 : N (v p0 10) = 12 := xn_38 hI h_12
        refine jt_q (rv z_9) rfl ?_
        refine xq_astore_n (i := 3) (lv' := [(3, rv z_9), (2, .int (iI a2_4)), (1, .int (iI a1_4)), (0, .ref p0.toNat)]) hx hb dX12_payOfAll_17 rfl hl (by decide) rfl (fun ls hl => ?_)
        refine lv_iload_n hx hb dX12_payOfAll_18 rfl (lv_at hl 2 rfl) ?_
        refine xq_aload_n hx hb dX12_payOfAll_19 rfl (lv_at hl 0 rfl) ?_
        have J31 : ∀ (s0_31 : Int) (H : Heap) (locs : List Loc) (ls : Array Slot), ((-2147483648) ≤ s0_31 ∧ s0_31 ≤ 2147483647) → va_P (dC, dI) vwCl (xG L cid K N v) H → va_S A s.heap H locs → lv_has ls 4 [(3, rv z_9), (2, .int (iI a2_4)), (1, .int (iI a1_4)), (0, .ref p0.toNat)] → W p l e ({ frames := 1, cells := 0, slots := 0, locals := 21 }) s m ([.ref p0.toNat] : List Value).toArray below meth c H locs 0 0 Q (F0 m 31 ls [.int (iI s0_31), .int (iI a1_4)]) := by
          intro s0_31 H locs ls h_14 hP hS hl
          refine xr_add hx hb dX12_payOfAll_31 ?_
          refine xr_kept (fun z_15 h_16 h_17 => ?_)
          refine lv_istore_n (i := 1) (lv' := [(1, .int (iI z_15)), (3, rv z_9), (2, .int (iI a2_4)), (0, .ref p0.toNat)]) hx hb dX12_payOfAll_32 rfl hl (by decide) rfl (fun ls hl => ?_)
          refine lv_iinc (v := iI (a2_4 + 1)) (lv' := [(2, .int (iI (a2_4 + 1))), (1, .int (iI z_15)), (3, rv z_9), (0, .ref p0.toNat)]) hx hb dX12_payOfAll_33 hl (k := 2) rfl (iI_add _ _) (by decide) rfl (fun ls hl => ?_)
          refine lv_goto (tgt := 4) hx hb dX12_payOfAll_36 (by decide) ?_
          exact ih4 (a2_4 + 1) z_15 H locs ls (by omega) (by omega) (by omega) hP hS (lv_sub hl [0, 1, 3] rfl)
        refine xq_ifnonnull (tgt := 27) hx hb dX12_payOfAll_20 (by decide) (fun h_18 => ?_) (fun h_18 => ?_)
        · have h_19 : ok L K z_9 2 := h_10.resolve_left (by omega)
          refine xq_aload_n hx hb dX12_payOfAll_27 rfl (lv_at hl 0 rfl) ?_
          refine jt_q (.ref z_9.toNat) (rv_ref (h_19).1) ?_
          have h_20 : (-2147483648) ≤ v z_9 5 ∧ v z_9 5 ≤ 2147483647 := xf_2_5 hI h_19
          refine gx_RX12_388 (y := v z_9 5) hx hb hj hown hK hP h_19 rfl dX12_payOfAll_28 ?_
          exact J31 (v z_9 5) H locs ls (by omega) hP hS hl
        · refine lv_iconst (v := iI 0) hx hb dX12_payOfAll_23 rfl ?_
          refine lv_goto (tgt := 31) hx hb dX12_payOfAll_24 (by decide) ?_
          exact J31 0 H locs ls (by omega) hP hS hl
  exact L4 ((((v p0 11) - 0 : Int)).toNat + 1) 0 0 H locs ls (by omega) (by omega) (by omega) hP hS hl
set_option maxHeartbeats 2000000 in
set_option maxRecDepth 100000 in
theorem sX12_countOfHand (l : Launch) (dC : Nat → ClassId) (dI : Nat → Nat → Nat) (sz : Nat) (L : List Nat) (cid : Nat → ClassId) (K : Int → Nat) (N : Int → Int) (tW : Nat) (sK sV : Nat → Nat) (v : Int → Int → Int) (p0 : Int) (p1 : Int) (hI : xI L K N v) (q0 : ok L K p0 12) (q1 : rg p1) : Met l yX12_countOfHand (jk yX12_countOfHand cX12_countOfHand 5 (some .int)) ({ frames := 1, cells := 0, slots := 0, locals := 21 }) (va_Pc [.ref p0.toNat, .int (iI p1)] (xP (dC, dI) (xG L cid K N v) (xT cid) tW sK sV sz)) (va_Qi (fun (r : Int32) (_ : Unit) => ∃ z : Int, r = iI z ∧ (rg z)) (fun _ _ => True) (va_A [] sz)) 0 0 (va_A [] sz) := by
  refine Met.ofW (cc := cX12_countOfHand) (maxL := 5) (ret := (some .int)) (by decide) rfl ?_
  intro p e s m args below meth c s₁ B hml hv
  obtain ⟨rfl, ⟨hsz, hP, hK, hD0⟩, hX⟩ := hv
  have hx := B.exec
  have hb := B.bytes
  have hr := B.returns
  have hts := atoms_spec (ws := (jk yX12_countOfHand cX12_countOfHand 5 (some .int))) B.pre
  have hj : ∀ w ∈ jw, w.before ([.ref p0.toNat, .int (iI p1)] : List Value).toArray s = true := fun w h => hts w (jm h)
  have hown : s.vm.findClass RX12 = some m.cls := findClass_of_methodNamed B.named
  subst hsz
  have hDw := hD0.self (sz := s.heap.size)
  have hAA : ∀ q : Nat, s.heap.size ≤ q → va_A (xG L cid K N v) s.heap.size q := fun q h => Or.inr h
  have hAw : ∀ q, va_A [] s.heap.size q → va_A (xG L cid K N v) s.heap.size q := ja_nil va_S.rf hAA
  generalize hAe : (va_A [] s.heap.size) = A at hAw ⊢
  have hA : ∀ q : Nat, s.heap.size ≤ q → A q := fun q h => by rw [← hAe]; exact Or.inr h
  have hS : va_S A s.heap s.heap [] := va_S.rf
  have hXa := hX.nar hAw
  have hP : va_P (dC, dI) vwCl (xG L cid K N v) s.heap := hP
  have hl := lv_entry ([.ref p0.toNat, .int (iI p1)]) (n := 5) (Nat.le_of_ble_eq_true rfl)
  rw [lg_entry_eq]
  generalize (lg_sl ([.ref p0.toNat, .int (iI p1)]) ++ List.replicate (5 - (lg_sl ([.ref p0.toNat, .int (iI p1)])).length) Slot.unset).toArray = ls at hl ⊢
  have hl : lv_has ls 5 [(0, .ref p0.toNat), (1, .int (iI p1))] := hl
  generalize hQ : MQ below (va_Qi (fun (r : Int32) (_ : Unit) => ∃ z : Int, r = iI z ∧ (rg z)) (fun _ _ => True) A) ([.ref p0.toNat, .int (iI p1)] : List Value).toArray s 0 0 A = Q
  suffices ST : ∀ (H : Heap) (locs : List Loc), va_P (dC, dI) vwCl (xG L cid K N v) H → va_S A s.heap H locs → W p l e ({ frames := 1, cells := 0, slots := 0, locals := 21 }) s m ([.ref p0.toNat, .int (iI p1)] : List Value).toArray below meth c H locs 0 0 Q (F0 m 0 ls []) from ST _ _ hP hS
  clear hP hS
  intro H locs hP hS
  refine lv_iload_n hx hb dX12_countOfHand_0 rfl (lv_at hl 1 rfl) ?_
  refine lv_bipush (v := iI 10) hx hb dX12_countOfHand_1 rfl ?_
  have J17 : ∀ (s0_17 : Int) (H : Heap) (locs : List Loc) (ls : Array Slot), (0 ≤ s0_17 ∧ s0_17 ≤ 1) → va_P (dC, dI) vwCl (xG L cid K N v) H → va_S A s.heap H locs → lv_has ls 5 [(0, .ref p0.toNat), (1, .int (iI p1))] → W p l e ({ frames := 1, cells := 0, slots := 0, locals := 21 }) s m ([.ref p0.toNat, .int (iI p1)] : List Value).toArray below meth c H locs 0 0 Q (F0 m 17 ls [.int (iI s0_17)]) := by
    intro s0_17 H locs ls h_1 hP hS hl
    refine lv_istore_n (i := 2) (lv' := [(2, .int (iI s0_17)), (0, .ref p0.toNat), (1, .int (iI p1))]) hx hb dX12_countOfHand_17 rfl hl (by decide) rfl (fun ls hl => ?_)
    refine lv_iload_n hx hb dX12_countOfHand_18 rfl (lv_at hl 2 rfl) ?_
    refine lv_bipush (v := iI 30) hx hb dX12_countOfHand_19 rfl ?_
    have J35 : ∀ (s0_35 : Int) (H : Heap) (locs : List Loc) (ls : Array Slot), (0 ≤ s0_35 ∧ s0_35 ≤ 1) → va_P (dC, dI) vwCl (xG L cid K N v) H → va_S A s.heap H locs → lv_has ls 5 [(2, .int (iI s0_17)), (0, .ref p0.toNat), (1, .int (iI p1))] → W p l e ({ frames := 1, cells := 0, slots := 0, locals := 21 }) s m ([.ref p0.toNat, .int (iI p1)] : List Value).toArray below meth c H locs 0 0 Q (F0 m 35 ls [.int (iI s0_35)]) := by
      intro s0_35 H locs ls h_2 hP hS hl
      refine lv_istore_n (i := 3) (lv' := [(3, .int (iI s0_35)), (2, .int (iI s0_17)), (0, .ref p0.toNat), (1, .int (iI p1))]) hx hb dX12_countOfHand_35 rfl hl (by decide) rfl (fun ls hl => ?_)
      refine lv_iload_n hx hb dX12_countOfHand_36 rfl (lv_at hl 1 rfl) ?_
      have J46 : ∀ (H : Heap) (locs : List Loc) (ls : Array Slot), va_P (dC, dI) vwCl (xG L cid K N v) H → va_S A s.heap H locs → lv_has ls 5 [(3, .int (iI s0_35)), (2, .int (iI s0_17)), (0, .ref p0.toNat), (1, .int (iI p1))] → W p l e ({ frames := 1, cells := 0, slots := 0, locals := 21 }) s m ([.ref p0.toNat, .int (iI p1)] : List Value).toArray below meth c H locs 0 0 Q (F0 m 46 ls []) := by
        intro H locs ls hP hS hl
        refine lv_aload_n hx hb dX12_countOfHand_46 rfl (lv_at hl 2 rfl) ?_
        refine lv_iload_n hx hb dX12_countOfHand_47 rfl (lv_at hl 1 rfl) ?_
        have J62 : ∀ (s0_62 : Int) (H : Heap) (locs : List Loc) (ls : Array Slot), ((-2147483648) ≤ s0_62 ∧ s0_62 ≤ 2147483647) → va_P (dC, dI) vwCl (xG L cid K N v) H → va_S A s.heap H locs → lv_has ls 5 [(3, .int (iI s0_35)), (2, .int (iI s0_17)), (0, .ref p0.toNat), (1, .int (iI p1))] → W p l e ({ frames := 1, cells := 0, slots := 0, locals := 21 }) s m ([.ref p0.toNat, .int (iI p1)] : List Value).toArray below meth c H locs 0 0 Q (F0 m 62 ls [.int (iI s0_62), .ref p0.toNat]) := by
          intro s0_62 H locs ls h_3 hP hS hl
          refine jc_q (va_runV (As := [.int (iI s0_62)]) (rest := []) ⟨hx, hb, hml, hown, hts⟩ (sX12_handAt l dC dI _ L cid K N tW sK sV v p0 s0_62 hI q0 (by omega)) (cwV 1 hts (jgoodV m_1056 m_1057 m_1058 m_873 m_1059) rfl rfl rfl (by decide +kernel) ⟨(Nat.le_of_ble_eq_true rfl), (Nat.le_of_ble_eq_true rfl)⟩) ⟨xP_blind, xrecv hK hP q0 rfl rfl, fun U hU hW => ⟨rfl, xP_of hU hW hP hK hDw hX hS hAw hAA⟩⟩ rfl rfl hl.1 rfl (lv_room (Nat.le_of_ble_eq_true rfl)) dX12_countOfHand_62 ⟨(Nat.le_of_ble_eq_true rfl), (Nat.le_of_ble_eq_true rfl)⟩) hP hS hA (fun r_4 H locs w_5 hP hS => ?_)
          obtain ⟨z_6, rfl, h_7, h_8⟩ := w_5
          have h_9 : 0 ≤ v p0 11 ∧ v p0 11 ≤ 12 := xf_12_11 hI q0
          have h_10 : ok L K (v p0 10) 38 := xf_12_10 hI q0
          have h_11 : N (v p0 10) = 12 := xn_38 hI h_10
          refine jt_q (rv z_6) rfl ?_
          refine xq_astore (i := 4) (lv' := [(4, rv z_6), (3, .int (iI s0_35)), (2, .int (iI s0_17)), (0, .ref p0.toNat), (1, .int (iI p1))]) hx hb dX12_countOfHand_65 hl (by decide) rfl (fun ls hl => ?_)
          refine xq_aload hx hb dX12_countOfHand_67 (lv_at hl 0 rfl) ?_
          refine xq_ifnonnull (tgt := 74) hx hb dX12_countOfHand_69 (by decide) (fun h_12 => ?_) (fun h_12 => ?_)
          · have h_13 : ok L K z_6 2 := h_7.resolve_left (by omega)
            refine lv_iload_n hx hb dX12_countOfHand_74 rfl (lv_at hl 2 rfl) ?_
            refine xr_if_eq (tgt := 86) hx hb dX12_countOfHand_75 (by decide) (by omega) (fun h_14 => ?_) (fun h_14 => ?_)
            · refine xq_aload hx hb dX12_countOfHand_86 (lv_at hl 0 rfl) ?_
              refine jt_q (.ref z_6.toNat) (rv_ref (h_13).1) ?_
              have h_15 : 0 ≤ v z_6 3 ∧ v z_6 3 ≤ 1 := xf_2_3 hI h_13
              refine gx_RX12_300 (y := v z_6 3) hx hb hj hown hK hP h_13 rfl dX12_countOfHand_88 ?_
              refine xr_if_eq (tgt := 98) hx hb dX12_countOfHand_91 (by decide) (by omega) (fun h_16 => ?_) (fun h_16 => ?_)
              · refine lv_iconst (v := iI 0) hx hb dX12_countOfHand_98 rfl ?_
                rw [← hQ]
                exact W.iret (v := iI 0) hx hb hr (fun t ht hW => ⟨⟨iI 0, (), rfl, ⟨0, rfl, by omega⟩, trivial⟩, hS.F ht⟩) hS.2.2 dX12_countOfHand_99
              · refine lv_iconst (v := iI 1) hx hb dX12_countOfHand_94 rfl ?_
                refine lv_goto (tgt := 99) hx hb dX12_countOfHand_95 (by decide) ?_
                rw [← hQ]
                exact W.iret (v := iI 1) hx hb hr (fun t ht hW => ⟨⟨iI 1, (), rfl, ⟨1, rfl, by omega⟩, trivial⟩, hS.F ht⟩) hS.2.2 dX12_countOfHand_99
            · refine xq_aload hx hb dX12_countOfHand_78 (lv_at hl 0 rfl) ?_
              refine jt_q (.ref z_6.toNat) (rv_ref (h_13).1) ?_
              have h_17 : (-2147483648) ≤ v z_6 5 ∧ v z_6 5 ≤ 2147483647 := xf_2_5 hI h_13
              refine gx_RX12_388 (y := v z_6 5) hx hb hj hown hK hP h_13 rfl dX12_countOfHand_80 ?_
              refine lv_goto (tgt := 99) hx hb dX12_countOfHand_83 (by decide) ?_
              rw [← hQ]
              exact W.iret (v := iI (v z_6 5)) hx hb hr (fun t ht hW => ⟨⟨iI (v z_6 5), (), rfl, ⟨v z_6 5, rfl, by omega⟩, trivial⟩, hS.F ht⟩) hS.2.2 dX12_countOfHand_99
          · refine lv_iconst (v := iI (-1)) hx hb dX12_countOfHand_72 rfl ?_
            rw [← hQ]
            exact W.iret (v := iI (-1)) hx hb hr (fun t ht hW => ⟨⟨iI (-1), (), rfl, ⟨(-1), rfl, by omega⟩, trivial⟩, hS.F ht⟩) hS.2.2 dX12_countOfHand_73
        refine xr_if_eq (tgt := 58) hx hb dX12_countOfHand_48 (by decide) (by omega) (fun h_18 => ?_) (fun h_18 => ?_)
        · refine lv_iload_n hx hb dX12_countOfHand_58 rfl (lv_at hl 3 rfl) ?_
          refine lv_bipush (v := iI 30) hx hb dX12_countOfHand_59 rfl ?_
          refine xr_sub hx hb dX12_countOfHand_61 ?_
          refine xr_kept (fun z_19 h_20 h_21 => ?_)
          exact J62 z_19 H locs ls (by omega) hP hS hl
        · refine lv_iload_n hx hb dX12_countOfHand_51 rfl (lv_at hl 3 rfl) ?_
          refine lv_bipush (v := iI 10) hx hb dX12_countOfHand_52 rfl ?_
          refine xr_sub hx hb dX12_countOfHand_54 ?_
          refine xr_kept (fun z_22 h_23 h_24 => ?_)
          refine lv_goto (tgt := 62) hx hb dX12_countOfHand_55 (by decide) ?_
          exact J62 z_22 H locs ls (by omega) hP hS hl
      refine xr_if_ne (tgt := 46) hx hb dX12_countOfHand_37 (by decide) (by omega) (fun h_25 => ?_) (fun h_25 => ?_)
      · exact J46 H locs ls hP hS hl
      · refine lv_iload_n hx hb dX12_countOfHand_40 rfl (lv_at hl 0 rfl) ?_
        refine xr_if_ne (tgt := 46) hx hb dX12_countOfHand_41 (by decide) (by omega) (fun h_26 => ?_) (fun h_26 => ?_)
        · exact J46 H locs ls hP hS hl
        · refine lv_iconst (v := iI (-1)) hx hb dX12_countOfHand_44 rfl ?_
          rw [← hQ]
          exact W.iret (v := iI (-1)) hx hb hr (fun t ht hW => ⟨⟨iI (-1), (), rfl, ⟨(-1), rfl, by omega⟩, trivial⟩, hS.F ht⟩) hS.2.2 dX12_countOfHand_45
    have J34 : ∀ (H : Heap) (locs : List Loc) (ls : Array Slot), va_P (dC, dI) vwCl (xG L cid K N v) H → va_S A s.heap H locs → lv_has ls 5 [(2, .int (iI s0_17)), (0, .ref p0.toNat), (1, .int (iI p1))] → W p l e ({ frames := 1, cells := 0, slots := 0, locals := 21 }) s m ([.ref p0.toNat, .int (iI p1)] : List Value).toArray below meth c H locs 0 0 Q (F0 m 34 ls []) := by
      intro H locs ls hP hS hl
      refine lv_iconst (v := iI 0) hx hb dX12_countOfHand_34 rfl ?_
      exact J35 0 H locs ls (by omega) hP hS hl
    refine xr_icmp_lt (tgt := 34) hx hb dX12_countOfHand_21 (by decide) (by omega) (by omega) (fun h_27 => ?_) (fun h_27 => ?_)
    · exact J34 H locs ls hP hS hl
    · refine lv_iload_n hx hb dX12_countOfHand_24 rfl (lv_at hl 2 rfl) ?_
      refine lv_bipush (v := iI 42) hx hb dX12_countOfHand_25 rfl ?_
      refine xr_icmp_ge (tgt := 34) hx hb dX12_countOfHand_27 (by decide) (by omega) (by omega) (fun h_28 => ?_) (fun h_28 => ?_)
      · exact J34 H locs ls hP hS hl
      · refine lv_iconst (v := iI 1) hx hb dX12_countOfHand_30 rfl ?_
        refine lv_goto (tgt := 35) hx hb dX12_countOfHand_31 (by decide) ?_
        exact J35 1 H locs ls (by omega) hP hS hl
  have J16 : ∀ (H : Heap) (locs : List Loc) (ls : Array Slot), va_P (dC, dI) vwCl (xG L cid K N v) H → va_S A s.heap H locs → lv_has ls 5 [(0, .ref p0.toNat), (1, .int (iI p1))] → W p l e ({ frames := 1, cells := 0, slots := 0, locals := 21 }) s m ([.ref p0.toNat, .int (iI p1)] : List Value).toArray below meth c H locs 0 0 Q (F0 m 16 ls []) := by
    intro H locs ls hP hS hl
    refine lv_iconst (v := iI 0) hx hb dX12_countOfHand_16 rfl ?_
    exact J17 0 H locs ls (by omega) hP hS hl
  refine xr_icmp_lt (tgt := 16) hx hb dX12_countOfHand_3 (by decide) (by omega) (by omega) (fun h_29 => ?_) (fun h_29 => ?_)
  · exact J16 H locs ls hP hS hl
  · refine lv_iload_n hx hb dX12_countOfHand_6 rfl (lv_at hl 1 rfl) ?_
    refine lv_bipush (v := iI 22) hx hb dX12_countOfHand_7 rfl ?_
    refine xr_icmp_ge (tgt := 16) hx hb dX12_countOfHand_9 (by decide) (by omega) (by omega) (fun h_30 => ?_) (fun h_30 => ?_)
    · exact J16 H locs ls hP hS hl
    · refine lv_iconst (v := iI 1) hx hb dX12_countOfHand_12 rfl ?_
      refine lv_goto (tgt := 17) hx hb dX12_countOfHand_13 (by decide) ?_
      exact J17 1 H locs ls (by omega) hP hS hl
