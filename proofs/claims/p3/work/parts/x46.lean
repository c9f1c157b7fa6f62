set_option maxHeartbeats 2000000 in
set_option maxRecDepth 100000 in
theorem sX8_keep (l : Launch) (dC : Nat → ClassId) (dI : Nat → Nat → Nat) (sz : Nat) (L : List Nat) (cid : Nat → ClassId) (K : Int → Nat) (N : Int → Int) (tW : Nat) (sK sV : Nat → Nat) (v : Int → Int → Int) (p0 : Int) (p1 : Int) (hI : xI L K N v) (q0 : ok L K p0 8) (q1 : ok L K p1 9) : Met l yX8_keep (jk yX8_keep cX8_keep 2 (some .int)) ({ frames := 0, cells := 0, slots := 0, locals := 0 }) (va_Pc [.ref p0.toNat, .ref p1.toNat] (xP (dC, dI) (xG L cid K N v) (xT cid) tW sK sV sz)) (va_Qi (fun (r : Int32) (u : (Int → Int → Int)) => ∃ z : Int, r = iI z ∧ (xI L K N u) ∧ (fr K [(8, 1), (29, (-1))] u v) ∧ (rg z) ∧ ((z = -1 ∧ 12 ≤ v p0 1 ∧ u p0 1 = v p0 1) ∨ (z = v p0 1 ∧ v p0 1 < 12 ∧ u p0 1 = v p0 1 + 1))) (fun u t => va_P (dC, dI) vwCl (xG L cid K N u) t.heap ∧ va_K (dC, dI) vwCl (xT cid) t ∧ va_D (va_A (xG L cid K N v) sz) (xG L cid K N u)) (va_A (xG L cid K N v) sz)) 0 0 (va_A (xG L cid K N v) sz) := by
  refine Met.ofW (cc := cX8_keep) (maxL := 2) (ret := (some .int)) (by decide) rfl ?_
  intro p e s m args below meth c s₁ B hml hv
  obtain ⟨rfl, ⟨hsz, hP, hK, hD0⟩, hX⟩ := hv
  have hx := B.exec
  have hb := B.bytes
  have hr := B.returns
  have hts := atoms_spec (ws := (jk yX8_keep cX8_keep 2 (some .int))) B.pre
  have hj : ∀ w ∈ jw, w.before ([.ref p0.toNat, .ref p1.toNat] : List Value).toArray s = true := fun w h => hts w (jm h)
  have hown : s.vm.findClass RX8 = some m.cls := findClass_of_methodNamed B.named
  subst hsz
  have hD := hD0.self (sz := s.heap.size)
  generalize hAe : (va_A (xG L cid K N v) s.heap.size) = A at hD hX ⊢
  have hA : ∀ q : Nat, s.heap.size ≤ q → A q := fun q h => by rw [← hAe]; exact Or.inr h
  have hS : va_S A s.heap s.heap [] := va_S.rf
  have hXa := hX
  have hP : va_P (dC, dI) vwCl (xG L cid K N v) s.heap := hP
  have hl := lv_entry ([.ref p0.toNat, .ref p1.toNat]) (n := 2) (Nat.le_of_ble_eq_true rfl)
  rw [lg_entry_eq]
  generalize (lg_sl ([.ref p0.toNat, .ref p1.toNat]) ++ List.replicate (2 - (lg_sl ([.ref p0.toNat, .ref p1.toNat])).length) Slot.unset).toArray = ls at hl ⊢
  have hl : lv_has ls 2 [(0, .ref p0.toNat), (1, .ref p1.toNat)] := hl
  generalize hQ : MQ below (va_Qi (fun (r : Int32) (u : (Int → Int → Int)) => ∃ z : Int, r = iI z ∧ (xI L K N u) ∧ (fr K [(8, 1), (29, (-1))] u v) ∧ (rg z) ∧ ((z = -1 ∧ 12 ≤ v p0 1 ∧ u p0 1 = v p0 1) ∨ (z = v p0 1 ∧ v p0 1 < 12 ∧ u p0 1 = v p0 1 + 1))) (fun u t => va_P (dC, dI) vwCl (xG L cid K N u) t.heap ∧ va_K (dC, dI) vwCl (xT cid) t ∧ va_D A (xG L cid K N u)) A) ([.ref p0.toNat, .ref p1.toNat] : List Value).toArray s 0 0 A = Q
  suffices ST : ∀ (H : Heap) (locs : List Loc), va_P (dC, dI) vwCl (xG L cid K N v) H → va_S A s.heap H locs → W p l e ({ frames := 0, cells := 0, slots := 0, locals := 0 }) s m ([.ref p0.toNat, .ref p1.toNat] : List Value).toArray below meth c H locs 0 0 Q (F0 m 0 ls []) from ST _ _ hP hS
  clear hP hS
  intro H locs hP hS
  refine lv_aload_n hx hb dX8_keep_0 rfl (lv_at hl 0 rfl) ?_
  have h_1 : 0 ≤ v p0 1 ∧ v p0 1 ≤ 12 := xf_8_1 hI q0
  refine gx_RX8_33 (y := v p0 1) hx hb hj hown hK hP q0 rfl dX8_keep_1 ?_
  refine xr_if_lt (tgt := 16) hx hb dX8_keep_4 (by decide) (by omega) (fun h_2 => ?_) (fun h_2 => ?_)
  · exfalso; omega
  · refine lv_aload_n hx hb dX8_keep_7 rfl (lv_at hl 0 rfl) ?_
    refine gx_RX8_33 (y := v p0 1) hx hb hj hown hK hP q0 rfl dX8_keep_8 ?_
    refine lv_bipush (v := iI 12) hx hb dX8_keep_11 rfl ?_
    refine xr_icmp_lt (tgt := 18) hx hb dX8_keep_13 (by decide) (by omega) (by omega) (fun h_3 => ?_) (fun h_3 => ?_)
    · refine lv_aload_n hx hb dX8_keep_18 rfl (lv_at hl 0 rfl) ?_
      have h_4 : ok L K (v p0 0) 29 := xf_8_0 hI q0
      have h_5 : N (v p0 0) = 12 := xn_29 hI h_4
      refine gx_RX8_13 (y := v p0 0) hx hb hj hown hK hP q0 ((xf_8_0 hI q0).1) rfl dX8_keep_19 ?_
      refine lv_aload_n hx hb dX8_keep_22 rfl (lv_at hl 0 rfl) ?_
      refine gx_RX8_33 (y := v p0 1) hx hb hj hown hK hP q0 rfl dX8_keep_23 ?_
      refine lv_aload_n hx hb dX8_keep_26 rfl (lv_at hl 1 rfl) ?_
      refine sx_29 (y := p1) hx hb hK hP hD hS hI h_4 (by omega) (by omega) (by omega) q1 dX8_keep_27 (fun v_6 H locs f_7 e_8 o_9 I_10 hP hD hS => ?_)
      refine lv_aload_n hx hb dX8_keep_28 rfl (lv_at hl 0 rfl) ?_
      refine lv_dup hx hb dX8_keep_29 rfl ?_
      refine gx_RX8_33 (y := v p0 1) hx hb hj hown hK hP q0 (fr_use q0 f_7 rfl) dX8_keep_30 ?_
      refine lv_iconst (v := iI 1) hx hb dX8_keep_33 rfl ?_
      refine xr_add hx hb dX8_keep_34 ?_
      refine px_RX8_33 (y := (v p0 1) + 1) hx hb hj hown hK hP hD hS I_10 q0 ⟨by omega, by omega⟩ dX8_keep_35 (fun v_11 H locs f_12 e_13 o_14 I_15 hP hD hS => ?_)
      refine lv_aload_n hx hb dX8_keep_38 rfl (lv_at hl 0 rfl) ?_
      refine gx_RX8_33 (y := (v p0 1) + 1) hx hb hj hown hK hP q0 e_13 dX8_keep_39 ?_
      refine lv_iconst (v := iI 1) hx hb dX8_keep_42 rfl ?_
      refine xr_sub hx hb dX8_keep_43 ?_
      have b_16 : v_11 p0 1 = (v p0 1) + 1 := e_13
      rw [← hQ]
      exact W.iret (v := iI (((v p0 1) + 1) - 1)) hx hb hr (fun t ht hW => ⟨⟨iI (((v p0 1) + 1) - 1), v_11, rfl, ⟨((v p0 1) + 1) - 1, rfl, I_15, (fr_tr f_12 rfl (fr_tr f_7 rfl fr_rf)), by omega, by omega⟩, by rw [ht]; exact hP, va_K.moved hW.alike hK, hD⟩, hS.F ht⟩) hS.2.2 dX8_keep_44
    · refine lv_iconst (v := iI (-1)) hx hb dX8_keep_16 rfl ?_
      rw [← hQ]
      exact W.iret (v := iI (-1)) hx hb hr (fun t ht hW => ⟨⟨iI (-1), v, rfl, ⟨(-1), rfl, hI, fr_rf, by omega, by omega⟩, by rw [ht]; exact hP, va_K.moved hW.alike hK, hD⟩, hS.F ht⟩) hS.2.2 dX8_keep_17
set_option maxHeartbeats 2000000 in
set_option maxRecDepth 100000 in
theorem sX8_put (l : Launch) (dC : Nat → ClassId) (dI : Nat → Nat → Nat) (sz : Nat) (L : List Nat) (cid : Nat → ClassId) (K : Int → Nat) (N : Int → Int) (tW : Nat) (sK sV : Nat → Nat) (v : Int → Int → Int) (p0 : Int) (p1 : Int) (p2 : Int) (p3 : Int) (hI : xI L K N v) (q0 : ok L K p0 8) (q1 : rg p1) (q2 : rg p2) (q3 : rg p3) : Met l yX8_put (jk yX8_put cX8_put 4 (some .int)) ({ frames := 0, cells := 0, slots := 0, locals := 0 }) (va_Pc [.ref p0.toNat, .int (iI p1), .int (iI p2), .int (iI p3)] (xP (dC, dI) (xG L cid K N v) (xT cid) tW sK sV sz)) (va_Qi (fun (r : Int32) (u : (Int → Int → Int)) => ∃ z : Int, r = iI z ∧ (xI L K N u) ∧ (fr K [(8, 5), (30, (-1)), (31, (-1)), (32, (-1))] u v) ∧ (rg z)) (fun u t => va_P (dC, dI) vwCl (xG L cid K N u) t.heap ∧ va_K (dC, dI) vwCl (xT cid) t ∧ va_D (va_A (xG L cid K N v) sz) (xG L cid K N u)) (va_A (xG L cid K N v) sz)) 0 0 (va_A (xG L cid K N v) sz) := by
  refine Met.ofW (cc := cX8_put) (maxL := 4) (ret := (some .int)) (by decide) rfl ?_
  intro p e s m args below meth c s₁ B hml hv
  obtain ⟨rfl, ⟨hsz, hP, hK, hD0⟩, hX⟩ := hv
  have hx := B.exec
  have hb := B.bytes
  have hr := B.returns
  have hts := atoms_spec (ws := (jk yX8_put cX8_put 4 (some .int))) B.pre
  have hj : ∀ w ∈ jw, w.before ([.ref p0.toNat, .int (iI p1), .int (iI p2), .int (iI p3)] : List Value).toArray s = true := fun w h => hts w (jm h)
  have hown : s.vm.findClass RX8 = some m.cls := findClass_of_methodNamed B.named
  subst hsz
  have hD := hD0.self (sz := s.heap.size)
  generalize hAe : (va_A (xG L cid K N v) s.heap.size) = A at hD hX ⊢
  have hA : ∀ q : Nat, s.heap.size ≤ q → A q := fun q h => by rw [← hAe]; exact Or.inr h
  have hS : va_S A s.heap s.heap [] := va_S.rf
  have hXa := hX
  have hP : va_P (dC, dI) vwCl (xG L cid K N v) s.heap := hP
  have hl := lv_entry ([.ref p0.toNat, .int (iI p1), .int (iI p2), .int (iI p3)]) (n := 4) (Nat.le_of_ble_eq_true rfl)
  rw [lg_entry_eq]
  generalize (lg_sl ([.ref p0.toNat, .int (iI p1), .int (iI p2), .int (iI p3)]) ++ List.replicate (4 - (lg_sl ([.ref p0.toNat, .int (iI p1), .int (iI p2), .int (iI p3)])).length) Slot.unset).toArray = ls at hl ⊢
  have hl : lv_has ls 4 [(0, .ref p0.toNat), (1, .int (iI p1)), (2, .int (iI p2)), (3, .int (iI p3))] := hl
  generalize hQ : MQ below (va_Qi (fun (r : Int32) (u : (Int → Int → Int)) => ∃ z : Int, r = iI z ∧ (xI L K N u) ∧ (fr K [(8, 5), (30, (-1)), (31, (-1)), (32, (-1))] u v) ∧ (rg z)) (fun u t => va_P (dC, dI) vwCl (xG L cid K N u) t.heap ∧ va_K (dC, dI) vwCl (xT cid) t ∧ va_D A (xG L cid K N u)) A) ([.ref p0.toNat, .int (iI p1), .int (iI p2), .int (iI p3)] : List Value).toArray s 0 0 A = Q
  suffices ST : ∀ (H : Heap) (locs : List Loc), va_P (dC, dI) vwCl (xG L cid K N v) H → va_S A s.heap H locs → W p l e ({ frames := 0, cells := 0, slots := 0, locals := 0 }) s m ([.ref p0.toNat, .int (iI p1), .int (iI p2), .int (iI p3)] : List Value).toArray below meth c H locs 0 0 Q (F0 m 0 ls []) from ST _ _ hP hS
  clear hP hS
  intro H locs hP hS
  refine lv_iload_n hx hb dX8_put_0 rfl (lv_at hl 1 rfl) ?_
  refine xr_if_lt (tgt := 28) hx hb dX8_put_1 (by decide) (by omega) (fun h_1 => ?_) (fun h_1 => ?_)
  · refine lv_iconst (v := iI (-1)) hx hb dX8_put_28 rfl ?_
    rw [← hQ]
    exact W.iret (v := iI (-1)) hx hb hr (fun t ht hW => ⟨⟨iI (-1), v, rfl, ⟨(-1), rfl, hI, fr_rf, by omega⟩, by rw [ht]; exact hP, va_K.moved hW.alike hK, hD⟩, hS.F ht⟩) hS.2.2 dX8_put_29
  · refine lv_iload_n hx hb dX8_put_4 rfl (lv_at hl 1 rfl) ?_
    refine lv_aload_n hx hb dX8_put_5 rfl (lv_at hl 0 rfl) ?_
    have h_2 : 0 ≤ v p0 1 ∧ v p0 1 ≤ 12 := xf_8_1 hI q0
    refine gx_RX8_33 (y := v p0 1) hx hb hj hown hK hP q0 rfl dX8_put_6 ?_
    refine xr_icmp_ge (tgt := 28) hx hb dX8_put_9 (by decide) (by omega) (by omega) (fun h_3 => ?_) (fun h_3 => ?_)
    · refine lv_iconst (v := iI (-1)) hx hb dX8_put_28 rfl ?_
      rw [← hQ]
      exact W.iret (v := iI (-1)) hx hb hr (fun t ht hW => ⟨⟨iI (-1), v, rfl, ⟨(-1), rfl, hI, fr_rf, by omega⟩, by rw [ht]; exact hP, va_K.moved hW.alike hK, hD⟩, hS.F ht⟩) hS.2.2 dX8_put_29
    · refine lv_aload_n hx hb dX8_put_12 rfl (lv_at hl 0 rfl) ?_
      have h_4 : 0 ≤ v p0 5 ∧ v p0 5 ≤ 20 := xf_8_5 hI q0
      refine gx_RX8_37 (y := v p0 5) hx hb hj hown hK hP q0 rfl dX8_put_13 ?_
      refine xr_if_lt (tgt := 28) hx hb dX8_put_16 (by decide) (by omega) (fun h_5 => ?_) (fun h_5 => ?_)
      · exfalso; omega
      · refine lv_aload_n hx hb dX8_put_19 rfl (lv_at hl 0 rfl) ?_
        refine gx_RX8_37 (y := v p0 5) hx hb hj hown hK hP q0 rfl dX8_put_20 ?_
        refine lv_bipush (v := iI 20) hx hb dX8_put_23 rfl ?_
        refine xr_icmp_lt (tgt := 30) hx hb dX8_put_25 (by decide) (by omega) (by omega) (fun h_6 => ?_) (fun h_6 => ?_)
        · refine lv_aload_n hx hb dX8_put_30 rfl (lv_at hl 0 rfl) ?_
          have h_7 : ok L K (v p0 2) 30 := xf_8_2 hI q0
          have h_8 : N (v p0 2) = 20 := xn_30 hI h_7
          refine gx_RX8_17 (y := v p0 2) hx hb hj hown hK hP q0 ((xf_8_2 hI q0).1) rfl dX8_put_31 ?_
          refine lv_aload_n hx hb dX8_put_34 rfl (lv_at hl 0 rfl) ?_
          refine gx_RX8_37 (y := v p0 5) hx hb hj hown hK hP q0 rfl dX8_put_35 ?_
          refine lv_iload_n hx hb dX8_put_38 rfl (lv_at hl 1 rfl) ?_
          refine sx_30 (y := p1) hx hb hK hP hD hS hI h_7 (by omega) (by omega) (by omega) ⟨by omega, by omega⟩ dX8_put_39 (fun v_9 H locs f_10 e_11 o_12 I_13 hP hD hS => ?_)
          refine lv_aload_n hx hb dX8_put_40 rfl (lv_at hl 0 rfl) ?_
          have h_14 : ok L K (v p0 3) 31 := xf_8_3 hI q0
          have h_15 : N (v p0 3) = 20 := xn_31 hI h_14
          refine gx_RX8_21 (y := v p0 3) hx hb hj hown hK hP q0 ((xf_8_3 I_13 q0).1) (fr_use q0 f_10 rfl) dX8_put_41 ?_
          refine lv_aload_n hx hb dX8_put_44 rfl (lv_at hl 0 rfl) ?_
          refine gx_RX8_37 (y := v p0 5) hx hb hj hown hK hP q0 (fr_use q0 f_10 rfl) dX8_put_45 ?_
          refine lv_iload_n hx hb dX8_put_48 rfl (lv_at hl 2 rfl) ?_
          refine sx_31 (y := p2) hx hb hK hP hD hS I_13 h_14 (by omega) (by omega) (by omega) ⟨by omega, by omega⟩ dX8_put_49 (fun v_16 H locs f_17 e_18 o_19 I_20 hP hD hS => ?_)
          refine lv_aload_n hx hb dX8_put_50 rfl (lv_at hl 0 rfl) ?_
          have h_21 : ok L K (v p0 4) 32 := xf_8_4 hI q0
          have h_22 : N (v p0 4) = 20 := xn_32 hI h_21
          refine gx_RX8_24 (y := v p0 4) hx hb hj hown hK hP q0 ((xf_8_4 I_20 q0).1) (((fr_use q0 f_17 rfl)).trans (fr_use q0 f_10 rfl)) dX8_put_51 ?_
          refine lv_aload_n hx hb dX8_put_54 rfl (lv_at hl 0 rfl) ?_
          refine gx_RX8_37 (y := v p0 5) hx hb hj hown hK hP q0 (((fr_use q0 f_17 rfl)).trans (fr_use q0 f_10 rfl)) dX8_put_55 ?_
          refine lv_iload_n hx hb dX8_put_58 rfl (lv_at hl 3 rfl) ?_
          refine sx_32 (y := p3) hx hb hK hP hD hS I_20 h_21 (by omega) (by omega) (by omega) ⟨by omega, by omega⟩ dX8_put_59 (fun v_23 H locs f_24 e_25 o_26 I_27 hP hD hS => ?_)
          refine lv_aload_n hx hb dX8_put_60 rfl (lv_at hl 0 rfl) ?_
          refine lv_dup hx hb dX8_put_61 rfl ?_
          refine gx_RX8_37 (y := v p0 5) hx hb hj hown hK hP q0 (((fr_use q0 f_24 rfl)).trans (((fr_use q0 f_17 rfl)).trans (fr_use q0 f_10 rfl))) dX8_put_62 ?_
          refine lv_iconst (v := iI 1) hx hb dX8_put_65 rfl ?_
          refine xr_add hx hb dX8_put_66 ?_
          refine px_RX8_37 (y := (v p0 5) + 1) hx hb hj hown hK hP hD hS I_27 q0 ⟨by omega, by omega⟩ dX8_put_67 (fun v_28 H locs f_29 e_30 o_31 I_32 hP hD hS => ?_)
          refine lv_aload_n hx hb dX8_put_70 rfl (lv_at hl 0 rfl) ?_
          refine gx_RX8_37 (y := (v p0 5) + 1) hx hb hj hown hK hP q0 e_30 dX8_put_71 ?_
          rw [← hQ]
          exact W.iret (v := iI ((v p0 5) + 1)) hx hb hr (fun t ht hW => ⟨⟨iI ((v p0 5) + 1), v_28, rfl, ⟨(v p0 5) + 1, rfl, I_32, (fr_tr f_29 rfl (fr_tr f_24 rfl (fr_tr f_17 rfl (fr_tr f_10 rfl fr_rf)))), by omega⟩, by rw [ht]; exact hP, va_K.moved hW.alike hK, hD⟩, hS.F ht⟩) hS.2.2 dX8_put_74
        · refine lv_iconst (v := iI (-1)) hx hb dX8_put_28 rfl ?_
          rw [← hQ]
          exact W.iret (v := iI (-1)) hx hb hr (fun t ht hW => ⟨⟨iI (-1), v, rfl, ⟨(-1), rfl, hI, fr_rf, by omega⟩, by rw [ht]; exact hP, va_K.moved hW.alike hK, hD⟩, hS.F ht⟩) hS.2.2 dX8_put_29
set_option maxHeartbeats 2000000 in
set_option maxRecDepth 100000 in
theorem sX8_name (l : Launch) (dC : Nat → ClassId) (dI : Nat → Nat → Nat) (sz : Nat) (L : List Nat) (cid : Nat → ClassId) (K : Int → Nat) (N : Int → Int) (tW : Nat) (sK sV : Nat → Nat) (v : Int → Int → Int) (p0 : Int) (p1 : Int) (p2 : Int) (hI : xI L K N v) (q0 : ok L K p0 8) (q1 : rg p1) (q2 : rg p2) : Met l yX8_name (jk yX8_name cX8_name 3 none) ({ frames := 0, cells := 0, slots := 0, locals := 0 }) (va_Pc [.ref p0.toNat, .int (iI p1), .int (iI p2)] (xP (dC, dI) (xG L cid K N v) (xT cid) tW sK sV sz)) (va_Qv (fun (u : (Int → Int → Int)) => (xI L K N u) ∧ (fr K [(33, (-1))] u v)) (fun u t => va_P (dC, dI) vwCl (xG L cid K N u) t.heap ∧ va_K (dC, dI) vwCl (xT cid) t ∧ va_D (va_A (xG L cid K N v) sz) (xG L cid K N u)) (va_A (xG L cid K N v) sz)) 0 0 (va_A (xG L cid K N v) sz) := by
  refine Met.ofW (cc := cX8_name) (maxL := 3) (ret := none) (by decide) rfl ?_
  intro p e s m args below meth c s₁ B hml hv
  obtain ⟨rfl, ⟨hsz, hP, hK, hD0⟩, hX⟩ := hv
  have hx := B.exec
  have hb := B.bytes
  have hr := B.returns
  have hts := atoms_spec (ws := (jk yX8_name cX8_name 3 none)) B.pre
  have hj : ∀ w ∈ jw, w.before ([.ref p0.toNat, .int (iI p1), .int (iI p2)] : List Value).toArray s = true := fun w h => hts w (jm h)
  have hown : s.vm.findClass RX8 = some m.cls := findClass_of_methodNamed B.named
  subst hsz
  have hD := hD0.self (sz := s.heap.size)
  generalize hAe : (va_A (xG L cid K N v) s.heap.size) = A at hD hX ⊢
  have hA : ∀ q : Nat, s.heap.size ≤ q → A q := fun q h => by rw [← hAe]; exact Or.inr h
  have hS : va_S A s.heap s.heap [] := va_S.rf
  have hXa := hX
  have hP : va_P (dC, dI) vwCl (xG L cid K N v) s.heap := hP
  have hl := lv_entry ([.ref p0.toNat, .int (iI p1), .int (iI p2)]) (n := 3) (Nat.le_of_ble_eq_true rfl)
  rw [lg_entry_eq]
  generalize (lg_sl ([.ref p0.toNat, .int (iI p1), .int (iI p2)]) ++ List.replicate (3 - (lg_sl ([.ref p0.toNat, .int (iI p1), .int (iI p2)])).length) Slot.unset).toArray = ls at hl ⊢
  have hl : lv_has ls 3 [(0, .ref p0.toNat), (1, .int (iI p1)), (2, .int (iI p2))] := hl
  generalize hQ : MQ below (va_Qv (fun (u : (Int → Int → Int)) => (xI L K N u) ∧ (fr K [(33, (-1))] u v)) (fun u t => va_P (dC, dI) vwCl (xG L cid K N u) t.heap ∧ va_K (dC, dI) vwCl (xT cid) t ∧ va_D A (xG L cid K N u)) A) ([.ref p0.toNat, .int (iI p1), .int (iI p2)] : List Value).toArray s 0 0 A = Q
  suffices ST : ∀ (H : Heap) (locs : List Loc), va_P (dC, dI) vwCl (xG L cid K N v) H → va_S A s.heap H locs → W p l e ({ frames := 0, cells := 0, slots := 0, locals := 0 }) s m ([.ref p0.toNat, .int (iI p1), .int (iI p2)] : List Value).toArray below meth c H locs 0 0 Q (F0 m 0 ls []) from ST _ _ hP hS
  clear hP hS
  intro H locs hP hS
  refine lv_iload_n hx hb dX8_name_0 rfl (lv_at hl 1 rfl) ?_
  refine xr_if_lt (tgt := 17) hx hb dX8_name_1 (by decide) (by omega) (fun h_1 => ?_) (fun h_1 => ?_)
  · rw [← hQ]
    exact W.vret hx hb hr (fun t ht hW => ⟨⟨v, rfl, ⟨hI, fr_rf⟩, by rw [ht]; exact hP, va_K.moved hW.alike hK, hD⟩, hS.F ht⟩) hS.2.2 dX8_name_17
  · refine lv_iload_n hx hb dX8_name_4 rfl (lv_at hl 1 rfl) ?_
    refine lv_bipush (v := iI 9) hx hb dX8_name_5 rfl ?_
    refine xr_icmp_ge (tgt := 17) hx hb dX8_name_7 (by decide) (by omega) (by omega) (fun h_2 => ?_) (fun h_2 => ?_)
    · rw [← hQ]
      exact W.vret hx hb hr (fun t ht hW => ⟨⟨v, rfl, ⟨hI, fr_rf⟩, by rw [ht]; exact hP, va_K.moved hW.alike hK, hD⟩, hS.F ht⟩) hS.2.2 dX8_name_17
    · refine lv_aload_n hx hb dX8_name_10 rfl (lv_at hl 0 rfl) ?_
      have h_3 : ok L K (v p0 6) 33 := xf_8_6 hI q0
      have h_4 : N (v p0 6) = 9 := xn_33 hI h_3
      refine gx_RX8_27 (y := v p0 6) hx hb hj hown hK hP q0 ((xf_8_6 hI q0).1) rfl dX8_name_11 ?_
      refine lv_iload_n hx hb dX8_name_14 rfl (lv_at hl 1 rfl) ?_
      refine lv_iload_n hx hb dX8_name_15 rfl (lv_at hl 2 rfl) ?_
      refine sx_33 (y := p2) hx hb hK hP hD hS hI h_3 (by omega) (by omega) (by omega) ⟨by omega, by omega⟩ dX8_name_16 (fun v_5 H locs f_6 e_7 o_8 I_9 hP hD hS => ?_)
      rw [← hQ]
      exact W.vret hx hb hr (fun t ht hW => ⟨⟨v_5, rfl, ⟨I_9, (fr_tr f_6 rfl fr_rf)⟩, by rw [ht]; exact hP, va_K.moved hW.alike hK, hD⟩, hS.F ht⟩) hS.2.2 dX8_name_17
set_option maxHeartbeats 2000000 in
set_option maxRecDepth 100000 in
theorem sX9_sortOf (l : Launch) (dC : Nat → ClassId) (dI : Nat → Nat → Nat) (sz : Nat) (p1 : Int) (q1 : rg p1) : Met l yX9_sortOf (jk yX9_sortOf cX9_sortOf 3 (some .int)) ({ frames := 0, cells := 0, slots := 0, locals := 0 }) (va_Pc [.int (iI p1)] (fun U => U.heap.size = sz)) (va_Qi (fun (r : Int32) (_ : Unit) => ∃ z : Int, r = iI z ∧ (rg z)) (fun _ _ => True) (va_A [] sz)) 0 0 (va_A [] sz) := by
  refine Met.ofW (cc := cX9_sortOf) (maxL := 3) (ret := (some .int)) (by decide) rfl ?_
  intro p e s m args below meth c s₁ B hml hv
  obtain ⟨rfl, hsz⟩ := hv
  have hx := B.exec
  have hb := B.bytes
  have hr := B.returns
  have hts := atoms_spec (ws := (jk yX9_sortOf cX9_sortOf 3 (some .int))) B.pre
  have hj : ∀ w ∈ jw, w.before ([.int (iI p1)] : List Value).toArray s = true := fun w h => hts w (jm h)
  have hown : s.vm.findClass RX9 = some m.cls := findClass_of_methodNamed B.named
  subst hsz
  have hP : va_P (dC, dI) vwCl [] s.heap := fun k q h => by simp at h
  generalize hAe : (va_A [] s.heap.size) = A
  have hA : ∀ q : Nat, s.heap.size ≤ q → A q := fun q h => by rw [← hAe]; exact Or.inr h
  have hS : va_S A s.heap s.heap [] := va_S.rf
  have hl := lv_entry ([.int (iI p1)]) (n := 3) (Nat.le_of_ble_eq_true rfl)
  rw [lg_entry_eq]
  generalize (lg_sl ([.int (iI p1)]) ++ List.replicate (3 - (lg_sl ([.int (iI p1)])).length) Slot.unset).toArray = ls at hl ⊢
  have hl : lv_has ls 3 [(0, .int (iI p1))] := hl
  generalize hQ : MQ below (va_Qi (fun (r : Int32) (_ : Unit) => ∃ z : Int, r = iI z ∧ (rg z)) (fun _ _ => True) A) ([.int (iI p1)] : List Value).toArray s 0 0 A = Q
  suffices ST : ∀ (H : Heap) (locs : List Loc), va_P (dC, dI) vwCl [] H → va_S A s.heap H locs → W p l e ({ frames := 0, cells := 0, slots := 0, locals := 0 }) s m ([.int (iI p1)] : List Value).toArray below meth c H locs 0 0 Q (F0 m 0 ls []) from ST _ _ hP hS
  clear hP hS
  intro H locs hP hS
  refine lv_iload_n hx hb dX9_sortOf_0 rfl (lv_at hl 0 rfl) ?_
  have J11 : ∀ (H : Heap) (locs : List Loc) (ls : Array Slot), va_P (dC, dI) vwCl [] H → va_S A s.heap H locs → lv_has ls 3 [(0, .int (iI p1))] → W p l e ({ frames := 0, cells := 0, slots := 0, locals := 0 }) s m ([.int (iI p1)] : List Value).toArray below meth c H locs 0 0 Q (F0 m 11 ls []) := by
    intro H locs ls hP hS hl
    refine lv_iload_n hx hb dX9_sortOf_11 rfl (lv_at hl 0 rfl) ?_
    refine lv_bipush (v := iI 10) hx hb dX9_sortOf_12 rfl ?_
    refine xr_divA hx hb dX9_sortOf_14 (by omega) (by omega) (fun z_1 h_2 => ?_)
    refine lv_istore_n (i := 1) (lv' := [(1, .int (iI z_1)), (0, .int (iI p1))]) hx hb dX9_sortOf_15 rfl hl (by decide) rfl (fun ls hl => ?_)
    refine lv_iload_n hx hb dX9_sortOf_16 rfl (lv_at hl 1 rfl) ?_
    refine lv_bipush (v := iI 10) hx hb dX9_sortOf_17 rfl ?_
    refine xr_remA hx hb dX9_sortOf_19 (by omega) (by omega) (fun z_3 h_4 => ?_)
    refine lv_istore_n (i := 2) (lv' := [(2, .int (iI z_3)), (1, .int (iI z_1)), (0, .int (iI p1))]) hx hb dX9_sortOf_20 rfl hl (by decide) rfl (fun ls hl => ?_)
    refine lv_iload_n hx hb dX9_sortOf_21 rfl (lv_at hl 2 rfl) ?_
    refine lv_bipush (v := iI 10) hx hb dX9_sortOf_22 rfl ?_
    refine xr_icmp_lt (tgt := 49) hx hb dX9_sortOf_24 (by decide) (by omega) (by omega) (fun h_5 => ?_) (fun h_5 => ?_)
    · refine lv_iconst (v := iI (-1)) hx hb dX9_sortOf_49 rfl ?_
      rw [← hQ]
      exact W.iret (v := iI (-1)) hx hb hr (fun t ht hW => ⟨⟨iI (-1), (), rfl, ⟨(-1), rfl, by omega⟩, trivial⟩, hS.F ht⟩) hS.2.2 dX9_sortOf_50
    · refine lv_iload_n hx hb dX9_sortOf_27 rfl (lv_at hl 1 rfl) ?_
      refine lv_iconst (v := iI 3) hx hb dX9_sortOf_28 rfl ?_
      refine xr_icmp_gt (tgt := 49) hx hb dX9_sortOf_29 (by decide) (by omega) (by omega) (fun h_6 => ?_) (fun h_6 => ?_)
      · refine lv_iconst (v := iI (-1)) hx hb dX9_sortOf_49 rfl ?_
        rw [← hQ]
        exact W.iret (v := iI (-1)) hx hb hr (fun t ht hW => ⟨⟨iI (-1), (), rfl, ⟨(-1), rfl, by omega⟩, trivial⟩, hS.F ht⟩) hS.2.2 dX9_sortOf_50
      · refine lv_iload_n hx hb dX9_sortOf_32 rfl (lv_at hl 0 rfl) ?_
        refine lv_iconst (v := iI 2) hx hb dX9_sortOf_33 rfl ?_
        refine xr_icmp_gt (tgt := 49) hx hb dX9_sortOf_34 (by decide) (by omega) (by omega) (fun h_7 => ?_) (fun h_7 => ?_)
        · refine lv_iconst (v := iI (-1)) hx hb dX9_sortOf_49 rfl ?_
          rw [← hQ]
          exact W.iret (v := iI (-1)) hx hb hr (fun t ht hW => ⟨⟨iI (-1), (), rfl, ⟨(-1), rfl, by omega⟩, trivial⟩, hS.F ht⟩) hS.2.2 dX9_sortOf_50
        · refine lv_iconst (v := iI 5) hx hb dX9_sortOf_37 rfl ?_
          refine lv_iconst (v := iI 3) hx hb dX9_sortOf_38 rfl ?_
          refine lv_iload_n hx hb dX9_sortOf_39 rfl (lv_at hl 1 rfl) ?_
          refine lv_iconst (v := iI 1) hx hb dX9_sortOf_40 rfl ?_
          refine xr_sub hx hb dX9_sortOf_41 ?_
          refine xr_kept (fun z_8 h_9 h_10 => ?_)
          refine xr_mul hx hb dX9_sortOf_42 ?_
          refine xr_kept (fun z_11 h_12 h_13 => ?_)
          clear h_13
          refine xr_add hx hb dX9_sortOf_43 ?_
          refine xr_kept (fun z_14 h_15 h_16 => ?_)
          refine lv_iload_n hx hb dX9_sortOf_44 rfl (lv_at hl 0 rfl) ?_
          refine xr_add hx hb dX9_sortOf_45 ?_
          refine xr_kept (fun z_17 h_18 h_19 => ?_)
          refine lv_goto (tgt := 50) hx hb dX9_sortOf_46 (by decide) ?_
          rw [← hQ]
          exact W.iret (v := iI z_17) hx hb hr (fun t ht hW => ⟨⟨iI z_17, (), rfl, ⟨z_17, rfl, by omega⟩, trivial⟩, hS.F ht⟩) hS.2.2 dX9_sortOf_50
  refine xr_if_lt (tgt := 11) hx hb dX9_sortOf_1 (by decide) (by omega) (fun h_20 => ?_) (fun h_20 => ?_)
  · exact J11 H locs ls hP hS hl
  · refine lv_iload_n hx hb dX9_sortOf_4 rfl (lv_at hl 0 rfl) ?_
    refine lv_iconst (v := iI 4) hx hb dX9_sortOf_5 rfl ?_
    refine xr_icmp_gt (tgt := 11) hx hb dX9_sortOf_6 (by decide) (by omega) (by omega) (fun h_21 => ?_) (fun h_21 => ?_)
    · exact J11 H locs ls hP hS hl
    · refine lv_iload_n hx hb dX9_sortOf_9 rfl (lv_at hl 0 rfl) ?_
      rw [← hQ]
      exact W.iret (v := iI p1) hx hb hr (fun t ht hW => ⟨⟨iI p1, (), rfl, ⟨p1, rfl, by omega⟩, trivial⟩, hS.F ht⟩) hS.2.2 dX9_sortOf_10
set_option maxHeartbeats 2000000 in
set_option maxRecDepth 100000 in
theorem sX10_add (l : Launch) (dC : Nat → ClassId) (dI : Nat → Nat → Nat) (sz : Nat) (L : List Nat) (cid : Nat → ClassId) (K : Int → Nat) (N : Int → Int) (tW : Nat) (sK sV : Nat → Nat) (v : Int → Int → Int) (p0 : Int) (p1 : Int) (hI : xI L K N v) (q0 : ok L K p0 10) (q1 : rg p1) : Met l yX10_add (jk yX10_add cX10_add 2 (some .int)) ({ frames := 0, cells := 0, slots := 0, locals := 0 }) (va_Pc [.ref p0.toNat, .int (iI p1)] (xP (dC, dI) (xG L cid K N v) (xT cid) tW sK sV sz)) (va_Qi (fun (r : Int32) (u : (Int → Int → Int)) => ∃ z : Int, r = iI z ∧ (xI L K N u) ∧ (fr K [(10, 1), (61, (-1))] u v) ∧ (rg z) ∧ ((z = -1 ∧ u p0 1 = v p0 1 ∧ 30 ≤ v p0 1) ∨ (z = v p0 1 + 1 ∧ u p0 1 = v p0 1 + 1 ∧ v p0 1 < 30))) (fun u t => va_P (dC, dI) vwCl (xG L cid K N u) t.heap ∧ va_K (dC, dI) vwCl (xT cid) t ∧ va_D (va_A (xG L cid K N v) sz) (xG L cid K N u)) (va_A (xG L cid K N v) sz)) 0 0 (va_A (xG L cid K N v) sz) := by
  refine Met.ofW (cc := cX10_add) (maxL := 2) (ret := (some .int)) (by decide) rfl ?_
  intro p e s m args below meth c s₁ B hml hv
  obtain ⟨rfl, ⟨hsz, hP, hK, hD0⟩, hX⟩ := hv
  have hx := B.exec
  have hb := B.bytes
  have hr := B.returns
  have hts := atoms_spec (ws := (jk yX10_add cX10_add 2 (some .int))) B.pre
  have hj : ∀ w ∈ jw, w.before ([.ref p0.toNat, .int (iI p1)] : List Value).toArray s = true := fun w h => hts w (jm h)
  have hown : s.vm.findClass RX10 = some m.cls := findClass_of_methodNamed B.named
  subst hsz
  have hD := hD0.self (sz := s.heap.size)
  generalize hAe : (va_A (xG L cid K N v) s.heap.size) = A at hD hX ⊢
  have hA : ∀ q : Nat, s.heap.size ≤ q → A q := fun q h => by rw [← hAe]; exact Or.inr h
  have hS : va_S A s.heap s.heap [] := va_S.rf
  have hXa := hX
  have hP : va_P (dC, dI) vwCl (xG L cid K N v) s.heap := hP
  have hl := lv_entry ([.ref p0.toNat, .int (iI p1)]) (n := 2) (Nat.le_of_ble_eq_true rfl)
  rw [lg_entry_eq]
  generalize (lg_sl ([.ref p0.toNat, .int (iI p1)]) ++ List.replicate (2 - (lg_sl ([.ref p0.toNat, .int (iI p1)])).length) Slot.unset).toArray = ls at hl ⊢
  have hl : lv_has ls 2 [(0, .ref p0.toNat), (1, .int (iI p1))] := hl
  generalize hQ : MQ below (va_Qi (fun (r : Int32) (u : (Int → Int → Int)) => ∃ z : Int, r = iI z ∧ (xI L K N u) ∧ (fr K [(10, 1), (61, (-1))] u v) ∧ (rg z) ∧ ((z = -1 ∧ u p0 1 = v p0 1 ∧ 30 ≤ v p0 1) ∨ (z = v p0 1 + 1 ∧ u p0 1 = v p0 1 + 1 ∧ v p0 1 < 30))) (fun u t => va_P (dC, dI) vwCl (xG L cid K N u) t.heap ∧ va_K (dC, dI) vwCl (xT cid) t ∧ va_D A (xG L cid K N u)) A) ([.ref p0.toNat, .int (iI p1)] : List Value).toArray s 0 0 A = Q
  suffices ST : ∀ (H : Heap) (locs : List Loc), va_P (dC, dI) vwCl (xG L cid K N v) H → va_S A s.heap H locs → W p l e ({ frames := 0, cells := 0, slots := 0, locals := 0 }) s m ([.ref p0.toNat, .int (iI p1)] : List Value).toArray below meth c H locs 0 0 Q (F0 m 0 ls []) from ST _ _ hP hS
  clear hP hS
  intro H locs hP hS
  refine lv_aload_n hx hb dX10_add_0 rfl (lv_at hl 0 rfl) ?_
  have h_1 : 0 ≤ v p0 1 ∧ v p0 1 ≤ 30 := xf_10_1 hI q0
  refine gx_RX10_18 (y := v p0 1) hx hb hj hown hK hP q0 rfl dX10_add_1 ?_
  refine xr_if_lt (tgt := 16) hx hb dX10_add_4 (by decide) (by omega) (fun h_2 => ?_) (fun h_2 => ?_)
  · exfalso; omega
  · refine lv_aload_n hx hb dX10_add_7 rfl (lv_at hl 0 rfl) ?_
    refine gx_RX10_18 (y := v p0 1) hx hb hj hown hK hP q0 rfl dX10_add_8 ?_
    refine lv_bipush (v := iI 30) hx hb dX10_add_11 rfl ?_
    refine xr_icmp_lt (tgt := 18) hx hb dX10_add_13 (by decide) (by omega) (by omega) (fun h_3 => ?_) (fun h_3 => ?_)
    · refine lv_aload_n hx hb dX10_add_18 rfl (lv_at hl 0 rfl) ?_
      have h_4 : ok L K (v p0 0) 61 := xf_10_0 hI q0
      have h_5 : N (v p0 0) = 30 := xn_61 hI h_4
      refine gx_RX10_11 (y := v p0 0) hx hb hj hown hK hP q0 ((xf_10_0 hI q0).1) rfl dX10_add_19 ?_
      refine lv_aload_n hx hb dX10_add_22 rfl (lv_at hl 0 rfl) ?_
      refine gx_RX10_18 (y := v p0 1) hx hb hj hown hK hP q0 rfl dX10_add_23 ?_
      refine lv_iload_n hx hb dX10_add_26 rfl (lv_at hl 1 rfl) ?_
      refine sx_61 (y := p1) hx hb hK hP hD hS hI h_4 (by omega) (by omega) (by omega) ⟨by omega, by omega⟩ dX10_add_27 (fun v_6 H locs f_7 e_8 o_9 I_10 hP hD hS => ?_)
      refine lv_aload_n hx hb dX10_add_28 rfl (lv_at hl 0 rfl) ?_
      refine lv_dup hx hb dX10_add_29 rfl ?_
      refine gx_RX10_18 (y := v p0 1) hx hb hj hown hK hP q0 (fr_use q0 f_7 rfl) dX10_add_30 ?_
      refine lv_iconst (v := iI 1) hx hb dX10_add_33 rfl ?_
      refine xr_add hx hb dX10_add_34 ?_
      refine px_RX10_18 (y := (v p0 1) + 1) hx hb hj hown hK hP hD hS I_10 q0 ⟨by omega, by omega⟩ dX10_add_35 (fun v_11 H locs f_12 e_13 o_14 I_15 hP hD hS => ?_)
      refine lv_aload_n hx hb dX10_add_38 rfl (lv_at hl 0 rfl) ?_
      refine gx_RX10_18 (y := (v p0 1) + 1) hx hb hj hown hK hP q0 e_13 dX10_add_39 ?_
      have b_16 : v_11 p0 1 = (v p0 1) + 1 := e_13
      rw [← hQ]
      exact W.iret (v := iI ((v p0 1) + 1)) hx hb hr (fun t ht hW => ⟨⟨iI ((v p0 1) + 1), v_11, rfl, ⟨(v p0 1) + 1, rfl, I_15, (fr_tr f_12 rfl (fr_tr f_7 rfl fr_rf)), by omega, by omega⟩, by rw [ht]; exact hP, va_K.moved hW.alike hK, hD⟩, hS.F ht⟩) hS.2.2 dX10_add_42
    · refine lv_iconst (v := iI (-1)) hx hb dX10_add_16 rfl ?_
      rw [← hQ]
      exact W.iret (v := iI (-1)) hx hb hr (fun t ht hW => ⟨⟨iI (-1), v, rfl, ⟨(-1), rfl, hI, fr_rf, by omega, by omega⟩, by rw [ht]; exact hP, va_K.moved hW.alike hK, hD⟩, hS.F ht⟩) hS.2.2 dX10_add_17
set_option maxHeartbeats 2000000 in
set_option maxRecDepth 100000 in
theorem sX10_begin (l : Launch) (dC : Nat → ClassId) (dI : Nat → Nat → Nat) (sz : Nat) (L : List Nat) (cid : Nat → ClassId) (K : Int → Nat) (N : Int → Int) (tW : Nat) (sK sV : Nat → Nat) (v : Int → Int → Int) (p0 : Int) (hI : xI L K N v) (q0 : ok L K p0 10) : Met l yX10_begin (jk yX10_begin cX10_begin 2 none) ({ frames := 0, cells := 0, slots := 0, locals := 0 }) (va_Pc [.ref p0.toNat] (xP (dC, dI) (xG L cid K N v) (xT cid) tW sK sV sz)) (va_Qv (fun (u : (Int → Int → Int)) => (xI L K N u) ∧ (fr K [(62, (-1))] u v)) (fun u t => va_P (dC, dI) vwCl (xG L cid K N u) t.heap ∧ va_K (dC, dI) vwCl (xT cid) t ∧ va_D (va_A (xG L cid K N v) sz) (xG L cid K N u)) (va_A (xG L cid K N v) sz)) 0 0 (va_A (xG L cid K N v) sz) := by
  refine Met.ofW (cc := cX10_begin) (maxL := 2) (ret := none) (by decide) rfl ?_
  intro p e s m args below meth c s₁ B hml hv
  obtain ⟨rfl, ⟨hsz, hP, hK, hD0⟩, hX⟩ := hv
  have hx := B.exec
  have hb := B.bytes
  have hr := B.returns
  have hts := atoms_spec (ws := (jk yX10_begin cX10_begin 2 none)) B.pre
  have hj : ∀ w ∈ jw, w.before ([.ref p0.toNat] : List Value).toArray s = true := fun w h => hts w (jm h)
  have hown : s.vm.findClass RX10 = some m.cls := findClass_of_methodNamed B.named
  subst hsz
  have hD := hD0.self (sz := s.heap.size)
  generalize hAe : (va_A (xG L cid K N v) s.heap.size) = A at hD hX ⊢
  have hA : ∀ q : Nat, s.heap.size ≤ q → A q := fun q h => by rw [← hAe]; exact Or.inr h
  have hS : va_S A s.heap s.heap [] := va_S.rf
  have hXa := hX
  have hP : va_P (dC, dI) vwCl (xG L cid K N v) s.heap := hP
  have hl := lv_entry ([.ref p0.toNat]) (n := 2) (Nat.le_of_ble_eq_true rfl)
  rw [lg_entry_eq]
  generalize (lg_sl ([.ref p0.toNat]) ++ List.replicate (2 - (lg_sl ([.ref p0.toNat])).length) Slot.unset).toArray = ls at hl ⊢
  have hl : lv_has ls 2 [(0, .ref p0.toNat)] := hl
  generalize hQ : MQ below (va_Qv (fun (u : (Int → Int → Int)) => (xI L K N u) ∧ (fr K [(62, (-1))] u v)) (fun u t => va_P (dC, dI) vwCl (xG L cid K N u) t.heap ∧ va_K (dC, dI) vwCl (xT cid) t ∧ va_D A (xG L cid K N u)) A) ([.ref p0.toNat] : List Value).toArray s 0 0 A = Q
  suffices ST : ∀ (H : Heap) (locs : List Loc), va_P (dC, dI) vwCl (xG L cid K N v) H → va_S A s.heap H locs → W p l e ({ frames := 0, cells := 0, slots := 0, locals := 0 }) s m ([.ref p0.toNat] : List Value).toArray below meth c H locs 0 0 Q (F0 m 0 ls []) from ST _ _ hP hS
  clear hP hS
  intro H locs hP hS
  refine lv_iconst (v := iI 0) hx hb dX10_begin_0 rfl ?_
  refine lv_istore_n (i := 1) (lv' := [(1, .int (iI 0)), (0, .ref p0.toNat)]) hx hb dX10_begin_1 rfl hl (by decide) rfl (fun ls hl => ?_)
  have L2 : ∀ (n2 : Nat) (a1_2 : Int) (vc2 : Int → Int → Int) (H : Heap) (locs : List Loc) (ls : Array Slot), (0 ≤ a1_2 ∧ a1_2 ≤ 2147483647) → (0 < (n2 : Int) ∧ 30 - a1_2 + 1 < (n2 : Int)) → fr K [(62, (-1))] vc2 v → xI L K N vc2 → va_P (dC, dI) vwCl (xG L cid K N vc2) H → va_D A (xG L cid K N vc2) → va_S A s.heap H locs → lv_has ls 2 [(1, .int (iI a1_2)), (0, .ref p0.toNat)] → W p l e ({ frames := 0, cells := 0, slots := 0, locals := 0 }) s m ([.ref p0.toNat] : List Value).toArray below meth c H locs 0 0 Q (F0 m 2 ls []) := by
    intro n2
    induction n2 with
    | zero =>
      intro a1_2 vc2 H locs ls h_1 hm2 f_2 I_3 hP hD hS hl
      exfalso; omega
    | succ n2 ih2 =>
      intro a1_2 vc2 H locs ls h_4 hm2 f_5 I_6 hP hD hS hl
      refine lv_iload_n hx hb dX10_begin_2 rfl (lv_at hl 0 rfl) ?_
      refine lv_bipush (v := iI 30) hx hb dX10_begin_3 rfl ?_
      refine xr_icmp_gt (tgt := 24) hx hb dX10_begin_5 (by decide) (by omega) (by omega) (fun h_7 => ?_) (fun h_7 => ?_)
      · rw [← hQ]
        exact W.vret hx hb hr (fun t ht hW => ⟨⟨vc2, rfl, ⟨I_6, (fr_tr f_5 rfl fr_rf)⟩, by rw [ht]; exact hP, va_K.moved hW.alike hK, hD⟩, hS.F ht⟩) hS.2.2 dX10_begin_24
      · refine lv_aload_n hx hb dX10_begin_8 rfl (lv_at hl 1 rfl) ?_
        have h_8 : ok L K (v p0 2) 62 := xf_10_2 hI q0
        have h_9 : N (v p0 2) = 31 := xn_62 hI h_8
        refine gx_RX10_15 (y := v p0 2) hx hb hj hown hK hP q0 ((xf_10_2 I_6 q0).1) (fr_use q0 f_5 rfl) dX10_begin_9 ?_
        refine lv_iload_n hx hb dX10_begin_12 rfl (lv_at hl 0 rfl) ?_
        refine lv_iload_n hx hb dX10_begin_13 rfl (lv_at hl 0 rfl) ?_
        refine lv_bipush (v := iI 64) hx hb dX10_begin_14 rfl ?_
        refine xr_mul hx hb dX10_begin_16 ?_
        refine sx_62 (y := a1_2 * 64) hx hb hK hP hD hS I_6 h_8 (by omega) (by omega) (by omega) ⟨by omega, by omega⟩ dX10_begin_17 (fun v_10 H locs f_11 e_12 o_13 I_14 hP hD hS => ?_)
        refine lv_iinc (v := iI (a1_2 + 1)) (lv' := [(1, .int (iI (a1_2 + 1))), (0, .ref p0.toNat)]) hx hb dX10_begin_18 hl (k := 0) rfl (iI_add _ _) (by decide) rfl (fun ls hl => ?_)
        refine lv_goto (tgt := 2) hx hb dX10_begin_21 (by decide) ?_
        exact ih2 (a1_2 + 1) v_10 H locs ls (by omega) (by omega) (fr_tr f_11 rfl (fr_tr f_5 rfl fr_rf)) I_14 hP hD hS hl
  exact L2 (((30 - 0 + 1 : Int)).toNat + 1) 0 v H locs ls (by omega) (by omega) fr_rf hI hP hD hS hl
