set_option maxHeartbeats 2000000 in
set_option maxRecDepth 100000 in
theorem sX12_tell (l : Launch) (dC : Nat → ClassId) (dI : Nat → Nat → Nat) (sz : Nat) (L : List Nat) (cid : Nat → ClassId) (K : Int → Nat) (N : Int → Int) (tW : Nat) (sK sV : Nat → Nat) (v : Int → Int → Int) (p0 : Int) (p1 : Int) (p2 : Int) (p3 : Int) (hI : xI L K N v) (q0 : ok L K p0 12) (q1 : rg p1) (q2 : rg p2) (q3 : rg p3) : Met l yX12_tell (jk yX12_tell cX12_tell 5 (some .boolean)) ({ frames := 1, cells := 0, slots := 0, locals := 24 }) (va_Pc [.ref p0.toNat, .int (iI p1), .int (iI p2), .int (iI p3)] (xP (dC, dI) (xG L cid K N v) (xT cid) tW sK sV sz)) (va_Qi (fun (r : Int32) (u : (Int → Int → Int)) => ∃ z : Int, r = iI z ∧ (xI L K N u) ∧ (fr K [(5, 5), (42, (-1)), (43, (-1)), (44, (-1)), (45, (-1)), (46, (-1))] u v) ∧ (0 ≤ z ∧ z ≤ 1) ∧ ((z = 0 ∧ u (u p0 14) 5 = v (v p0 14) 5 ∧ ((p1 < 0 ∨ 40 ≤ p1 ∨ p2 < 0 ∨ 999 < p2 ∨ p3 < 0) ∨ v (v p0 14) 5 < 0 ∨ 600 ≤ v (v p0 14) 5)) ∨ (z = 1 ∧ u (u p0 14) 5 = v (v p0 14) 5 + 1 ∧ 0 ≤ p1 ∧ p1 < 40 ∧ 0 ≤ p2 ∧ p2 ≤ 999 ∧ 0 ≤ p3 ∧ 0 ≤ v (v p0 14) 5 ∧ v (v p0 14) 5 < 600)) ∧ (z = 0 → u = v) ∧ (z = 1 → u = vu (vu (vu (vu (vu (vu v (v (v p0 14) 1) (v (v p0 14) 5) p2) (v (v p0 14) 2) (v (v p0 14) 5) p3) (v (v p0 14) 3) (v (v p0 14) 5) (v p0 0)) (v (v p0 14) 4) (v (v p0 14) 5) (v (v (v p0 14) 0) p1)) (v (v p0 14) 0) p1 (v (v p0 14) 5)) (v p0 14) 5 (v (v p0 14) 5 + 1))) (fun u t => va_P (dC, dI) vwCl (xG L cid K N u) t.heap ∧ va_K (dC, dI) vwCl (xT cid) t ∧ va_D (va_A (xG L cid K N v) sz) (xG L cid K N u)) (va_A (xG L cid K N v) sz)) 0 0 (va_A (xG L cid K N v) sz) := by
  refine Met.ofW (cc := cX12_tell) (maxL := 5) (ret := (some .boolean)) (by decide) rfl ?_
  intro p e s m args below meth c s₁ B hml hv
  obtain ⟨rfl, ⟨hsz, hP, hK, hD0⟩, hX⟩ := hv
  have hx := B.exec
  have hb := B.bytes
  have hr := B.returns
  have hts := atoms_spec (ws := (jk yX12_tell cX12_tell 5 (some .boolean))) B.pre
  have hj : ∀ w ∈ jw, w.before ([.ref p0.toNat, .int (iI p1), .int (iI p2), .int (iI p3)] : List Value).toArray s = true := fun w h => hts w (jm h)
  have hown : s.vm.findClass RX12 = some m.cls := findClass_of_methodNamed B.named
  subst hsz
  have hD := hD0.self (sz := s.heap.size)
  generalize hAe : (va_A (xG L cid K N v) s.heap.size) = A at hD hX ⊢
  have hA : ∀ q : Nat, s.heap.size ≤ q → A q := fun q h => by rw [← hAe]; exact Or.inr h
  have hS : va_S A s.heap s.heap [] := va_S.rf
  have hXa := hX
  have hP : va_P (dC, dI) vwCl (xG L cid K N v) s.heap := hP
  have hl := lv_entry ([.ref p0.toNat, .int (iI p1), .int (iI p2), .int (iI p3)]) (n := 5) (Nat.le_of_ble_eq_true rfl)
  rw [lg_entry_eq]
  generalize (lg_sl ([.ref p0.toNat, .int (iI p1), .int (iI p2), .int (iI p3)]) ++ List.replicate (5 - (lg_sl ([.ref p0.toNat, .int (iI p1), .int (iI p2), .int (iI p3)])).length) Slot.unset).toArray = ls at hl ⊢
  have hl : lv_has ls 5 [(0, .ref p0.toNat), (1, .int (iI p1)), (2, .int (iI p2)), (3, .int (iI p3))] := hl
  generalize hQ : MQ below (va_Qi (fun (r : Int32) (u : (Int → Int → Int)) => ∃ z : Int, r = iI z ∧ (xI L K N u) ∧ (fr K [(5, 5), (42, (-1)), (43, (-1)), (44, (-1)), (45, (-1)), (46, (-1))] u v) ∧ (0 ≤ z ∧ z ≤ 1) ∧ ((z = 0 ∧ u (u p0 14) 5 = v (v p0 14) 5 ∧ ((p1 < 0 ∨ 40 ≤ p1 ∨ p2 < 0 ∨ 999 < p2 ∨ p3 < 0) ∨ v (v p0 14) 5 < 0 ∨ 600 ≤ v (v p0 14) 5)) ∨ (z = 1 ∧ u (u p0 14) 5 = v (v p0 14) 5 + 1 ∧ 0 ≤ p1 ∧ p1 < 40 ∧ 0 ≤ p2 ∧ p2 ≤ 999 ∧ 0 ≤ p3 ∧ 0 ≤ v (v p0 14) 5 ∧ v (v p0 14) 5 < 600)) ∧ (z = 0 → u = v) ∧ (z = 1 → u = vu (vu (vu (vu (vu (vu v (v (v p0 14) 1) (v (v p0 14) 5) p2) (v (v p0 14) 2) (v (v p0 14) 5) p3) (v (v p0 14) 3) (v (v p0 14) 5) (v p0 0)) (v (v p0 14) 4) (v (v p0 14) 5) (v (v (v p0 14) 0) p1)) (v (v p0 14) 0) p1 (v (v p0 14) 5)) (v p0 14) 5 (v (v p0 14) 5 + 1))) (fun u t => va_P (dC, dI) vwCl (xG L cid K N u) t.heap ∧ va_K (dC, dI) vwCl (xT cid) t ∧ va_D A (xG L cid K N u)) A) ([.ref p0.toNat, .int (iI p1), .int (iI p2), .int (iI p3)] : List Value).toArray s 0 0 A = Q
  suffices ST : ∀ (H : Heap) (locs : List Loc), va_P (dC, dI) vwCl (xG L cid K N v) H → va_S A s.heap H locs → W p l e ({ frames := 1, cells := 0, slots := 0, locals := 24 }) s m ([.ref p0.toNat, .int (iI p1), .int (iI p2), .int (iI p3)] : List Value).toArray below meth c H locs 0 0 Q (F0 m 0 ls []) from ST _ _ hP hS
  clear hP hS
  intro H locs hP hS
  refine lv_iload_n hx hb dX12_tell_0 rfl (lv_at hl 1 rfl) ?_
  have J30 : ∀ (s0_30 : Int) (H : Heap) (locs : List Loc) (ls : Array Slot), (0 ≤ s0_30 ∧ s0_30 ≤ 1) → ((s0_30 = 1 ∧ 0 ≤ p1 ∧ p1 < 40 ∧ 0 ≤ p2 ∧ p2 ≤ 999 ∧ 0 ≤ p3) ∨ (s0_30 = 0 ∧ (p1 < 0 ∨ 40 ≤ p1 ∨ p2 < 0 ∨ 999 < p2 ∨ p3 < 0))) → va_P (dC, dI) vwCl (xG L cid K N v) H → va_D A (xG L cid K N v) → va_S A s.heap H locs → lv_has ls 5 [(0, .ref p0.toNat), (1, .int (iI p1)), (2, .int (iI p2)), (3, .int (iI p3))] → W p l e ({ frames := 1, cells := 0, slots := 0, locals := 24 }) s m ([.ref p0.toNat, .int (iI p1), .int (iI p2), .int (iI p3)] : List Value).toArray below meth c H locs 0 0 Q (F0 m 30 ls [.int (iI s0_30)]) := by
    intro s0_30 H locs ls h_1 h_2 hP hD hS hl
    refine lv_istore (i := 4) (lv' := [(4, .int (iI s0_30)), (0, .ref p0.toNat), (1, .int (iI p1)), (2, .int (iI p2)), (3, .int (iI p3))]) hx hb dX12_tell_30 hl (by decide) rfl (fun ls hl => ?_)
    refine lv_iload hx hb dX12_tell_32 (lv_at hl 0 rfl) ?_
    refine xr_if_eq (tgt := 58) hx hb dX12_tell_34 (by decide) (by omega) (fun h_3 => ?_) (fun h_3 => ?_)
    · refine lv_iconst (v := iI 0) hx hb dX12_tell_58 rfl ?_
      have h_4 : ok L K (v p0 14) 5 := xf_12_14 hI q0
      have h_5 : (-2147483648) ≤ v (v p0 14) 5 ∧ v (v p0 14) 5 ≤ 2147483647 := xf_5_5 hI h_4
      rw [← hQ]
      exact W.zret (v := iI 0) (ty := .boolean) hx hb hr (nb_bool (by omega) (by omega)) (fun t ht hW => ⟨⟨iI 0, v, rfl, ⟨0, rfl, hI, fr_rf, by omega, by omega, fun hz9 => by first | (exfalso; omega) | (rfl), fun hz9 => by first | (exfalso; omega) | (rfl)⟩, by rw [ht]; exact hP, va_K.moved hW.alike hK, hD⟩, hS.F ht⟩) hS.2.2 dX12_tell_59
    · refine lv_aload_n hx hb dX12_tell_37 rfl (lv_at hl 1 rfl) ?_
      have h_6 : ok L K (v p0 14) 5 := xf_12_14 hI q0
      refine gx_RX12_66 (y := v p0 14) hx hb hj hown hK hP q0 ((xf_12_14 hI q0).1) rfl dX12_tell_38 ?_
      refine lv_iload_n hx hb dX12_tell_41 rfl (lv_at hl 2 rfl) ?_
      refine lv_iload_n hx hb dX12_tell_42 rfl (lv_at hl 3 rfl) ?_
      refine lv_iload_n hx hb dX12_tell_43 rfl (lv_at hl 4 rfl) ?_
      refine lv_aload_n hx hb dX12_tell_44 rfl (lv_at hl 1 rfl) ?_
      have h_7 : 0 ≤ v p0 0 ∧ v p0 0 ≤ 2000 := xf_12_0 hI q0
      refine gx_RX12_133 (y := v p0 0) hx hb hj hown hK hP q0 rfl dX12_tell_45 ?_
      refine jcg_i (va_runV (As := [.int (iI p1), .int (iI p2), .int (iI p3), .int (iI (v p0 0))]) (rest := []) ⟨hx, hb, hml, hown, hts⟩ (sX5_addFact l dC dI _ L cid K N tW sK sV v (v p0 14) p1 p2 p3 (v p0 0) hI h_6 (by omega) (by omega) (by omega) (by omega)) (cwV 4 hts (jgoodV m_1117 m_1118 m_1119 m_923 m_1120) rfl rfl rfl (by decide +kernel) ⟨(Nat.le_of_ble_eq_true rfl), (Nat.le_of_ble_eq_true rfl)⟩) ⟨xP_blind, xrecv hK hP h_6 rfl rfl, fun U hU hW => ⟨rfl, xP_of hU hW hP hK hD hX hS (fun _ h => h) hA⟩⟩ rfl rfl hl.1 rfl (lv_room (Nat.le_of_ble_eq_true rfl)) dX12_tell_48 ⟨(Nat.le_of_ble_eq_true rfl), (Nat.le_of_ble_eq_true rfl)⟩) hD hS hA (fun r_8 v_15 H locs w_9 hP hK hD hS => ?_)
      obtain ⟨z_10, rfl, I_17, f_16, h_11, h_12, h_13, h_14⟩ := w_9
      have hP : va_P (dC, dI) vwCl (xG L cid K N v_15) H := hP
      have hD : va_D A (xG L cid K N v_15) := hD
      have h_13 : z_10 = 0 → v_15 = v := h_13
      have h_14 : z_10 = 1 → v_15 = vu (vu (vu (vu (vu (vu v (v (v p0 14) 1) (v (v p0 14) 5) p2) (v (v p0 14) 2) (v (v p0 14) 5) p3) (v (v p0 14) 3) (v (v p0 14) 5) (v p0 0)) (v (v p0 14) 4) (v (v p0 14) 5) (v (v (v p0 14) 0) p1)) (v (v p0 14) 0) p1 (v (v p0 14) 5)) (v p0 14) 5 (v (v p0 14) 5 + 1) := h_14
      have h_18 : (-2147483648) ≤ v_15 (v p0 14) 5 ∧ v_15 (v p0 14) 5 ≤ 2147483647 := xf_5_5 I_17 h_6
      have h_19 : (-2147483648) ≤ v (v p0 14) 5 ∧ v (v p0 14) 5 ≤ 2147483647 := xf_5_5 hI h_6
      refine xr_if_eq (tgt := 58) hx hb dX12_tell_51 (by decide) (by omega) (fun h_20 => ?_) (fun h_20 => ?_)
      · refine lv_iconst (v := iI 0) hx hb dX12_tell_58 rfl ?_
        have b_21 : v_15 p0 14 = v p0 14 := (fr_use q0 f_16 rfl)
        have b_22 : v_15 (v_15 p0 14) 5 = v_15 (v p0 14) 5 := by rw [b_21]
        rw [← hQ]
        exact W.zret (v := iI 0) (ty := .boolean) hx hb hr (nb_bool (by omega) (by omega)) (fun t ht hW => ⟨⟨iI 0, v_15, rfl, ⟨0, rfl, I_17, (fr_tr f_16 rfl fr_rf), by omega, by omega, fun hz9 => by first | (exfalso; omega) | ((first | rw [h_13 (by omega)] | rw [h_14 (by omega)]); first | done | (congr <;> omega)), fun hz9 => by first | (exfalso; omega) | ((first | rw [h_13 (by omega)] | rw [h_14 (by omega)]); first | done | (congr <;> omega))⟩, by rw [ht]; exact hP, va_K.moved hW.alike hK, hD⟩, hS.F ht⟩) hS.2.2 dX12_tell_59
      · refine lv_iconst (v := iI 1) hx hb dX12_tell_54 rfl ?_
        refine lv_goto (tgt := 59) hx hb dX12_tell_55 (by decide) ?_
        have b_23 : v_15 p0 14 = v p0 14 := (fr_use q0 f_16 rfl)
        have b_24 : v_15 (v_15 p0 14) 5 = v_15 (v p0 14) 5 := by rw [b_23]
        rw [← hQ]
        exact W.zret (v := iI 1) (ty := .boolean) hx hb hr (nb_bool (by omega) (by omega)) (fun t ht hW => ⟨⟨iI 1, v_15, rfl, ⟨1, rfl, I_17, (fr_tr f_16 rfl fr_rf), by omega, by omega, fun hz9 => by first | (exfalso; omega) | ((first | rw [h_13 (by omega)] | rw [h_14 (by omega)]); first | done | (congr <;> omega)), fun hz9 => by first | (exfalso; omega) | ((first | rw [h_13 (by omega)] | rw [h_14 (by omega)]); first | done | (congr <;> omega))⟩, by rw [ht]; exact hP, va_K.moved hW.alike hK, hD⟩, hS.F ht⟩) hS.2.2 dX12_tell_59
  have J29 : ∀ (H : Heap) (locs : List Loc) (ls : Array Slot), ((p1 < 0 ∨ 40 ≤ p1 ∨ p2 < 0 ∨ 999 < p2 ∨ p3 < 0)) → va_P (dC, dI) vwCl (xG L cid K N v) H → va_D A (xG L cid K N v) → va_S A s.heap H locs → lv_has ls 5 [(0, .ref p0.toNat), (1, .int (iI p1)), (2, .int (iI p2)), (3, .int (iI p3))] → W p l e ({ frames := 1, cells := 0, slots := 0, locals := 24 }) s m ([.ref p0.toNat, .int (iI p1), .int (iI p2), .int (iI p3)] : List Value).toArray below meth c H locs 0 0 Q (F0 m 29 ls []) := by
    intro H locs ls h_25 hP hD hS hl
    refine lv_iconst (v := iI 0) hx hb dX12_tell_29 rfl ?_
    exact J30 0 H locs ls (by omega) (by omega) hP hD hS hl
  refine xr_if_lt (tgt := 29) hx hb dX12_tell_1 (by decide) (by omega) (fun h_26 => ?_) (fun h_26 => ?_)
  · exact J29 H locs ls (by omega) hP hD hS hl
  · refine lv_iload_n hx hb dX12_tell_4 rfl (lv_at hl 1 rfl) ?_
    refine lv_bipush (v := iI 40) hx hb dX12_tell_5 rfl ?_
    refine xr_icmp_ge (tgt := 29) hx hb dX12_tell_7 (by decide) (by omega) (by omega) (fun h_27 => ?_) (fun h_27 => ?_)
    · exact J29 H locs ls (by omega) hP hD hS hl
    · refine lv_iload_n hx hb dX12_tell_10 rfl (lv_at hl 2 rfl) ?_
      refine xr_if_lt (tgt := 29) hx hb dX12_tell_11 (by decide) (by omega) (fun h_28 => ?_) (fun h_28 => ?_)
      · exact J29 H locs ls (by omega) hP hD hS hl
      · refine lv_iload_n hx hb dX12_tell_14 rfl (lv_at hl 2 rfl) ?_
        refine lv_sipush (v := iI 999) hx hb dX12_tell_15 rfl ?_
        refine xr_icmp_gt (tgt := 29) hx hb dX12_tell_18 (by decide) (by omega) (by omega) (fun h_29 => ?_) (fun h_29 => ?_)
        · exact J29 H locs ls (by omega) hP hD hS hl
        · refine lv_iload_n hx hb dX12_tell_21 rfl (lv_at hl 3 rfl) ?_
          refine xr_if_lt (tgt := 29) hx hb dX12_tell_22 (by decide) (by omega) (fun h_30 => ?_) (fun h_30 => ?_)
          · exact J29 H locs ls (by omega) hP hD hS hl
          · refine lv_iconst (v := iI 1) hx hb dX12_tell_25 rfl ?_
            refine lv_goto (tgt := 30) hx hb dX12_tell_26 (by decide) ?_
            exact J30 1 H locs ls (by omega) (by omega) hP hD hS hl
set_option maxHeartbeats 2000000 in
set_option maxRecDepth 100000 in
theorem sX12_known (l : Launch) (dC : Nat → ClassId) (dI : Nat → Nat → Nat) (sz : Nat) (L : List Nat) (cid : Nat → ClassId) (K : Int → Nat) (N : Int → Int) (tW : Nat) (sK sV : Nat → Nat) (v : Int → Int → Int) (p0 : Int) (p1 : Int) (p2 : Int) (p3 : Int) (hI : xI L K N v) (q0 : ok L K p0 12) (q1 : rg p1) (q2 : rg p2) (q3 : rg p3) : Met l yX12_known (jk yX12_known cX12_known 4 (some .int)) ({ frames := 2, cells := 0, slots := 0, locals := 47 }) (va_Pc [.ref p0.toNat, .int (iI p1), .int (iI p2), .int (iI p3)] (xP (dC, dI) (xG L cid K N v) (xT cid) tW sK sV sz)) (va_Qi (fun (r : Int32) (_ : Unit) => ∃ z : Int, r = iI z ∧ (rg z) ∧ ((0 ≤ p2 ∧ p2 ≤ 2000 ∧ p3 = 0) → z = vat (v (v (v p0 14) 1)) (chw (v (v (v p0 14) 3)) (v (v (v p0 14) 4)) p2 600 (tell0 (v (v (v p0 14) 0)) p1))) ∧ ((0 ≤ p2 ∧ p2 ≤ 2000 ∧ p3 = 1) → z = vat (v (v (v p0 14) 2)) (chw (v (v (v p0 14) 3)) (v (v (v p0 14) 4)) p2 600 (tell0 (v (v (v p0 14) 0)) p1))) ∧ ((p2 < 0 ∨ 2000 < p2 ∨ (p3 ≠ 0 ∧ p3 ≠ 1)) → z = -1)) (fun _ _ => True) (va_A [] sz)) 0 0 (va_A [] sz) := by
  refine Met.ofW (cc := cX12_known) (maxL := 4) (ret := (some .int)) (by decide) rfl ?_
  intro p e s m args below meth c s₁ B hml hv
  obtain ⟨rfl, ⟨hsz, hP, hK, hD0⟩, hX⟩ := hv
  have hx := B.exec
  have hb := B.bytes
  have hr := B.returns
  have hts := atoms_spec (ws := (jk yX12_known cX12_known 4 (some .int))) B.pre
  have hj : ∀ w ∈ jw, w.before ([.ref p0.toNat, .int (iI p1), .int (iI p2), .int (iI p3)] : List Value).toArray s = true := fun w h => hts w (jm h)
  have hown : s.vm.findClass RX12 = some m.cls := findClass_of_methodNamed B.named
  subst hsz
  have hDw := hD0.self (sz := s.heap.size)
  have hAA : ∀ q : Nat, s.heap.size ≤ q → va_A (xG L cid K N v) s.heap.size q := fun q h => Or.inr h
  have hAw : ∀ q, va_A [] s.heap.size q → va_A (xG L cid K N v) s.heap.size q := ja_nil va_S.rf hAA
  generalize hAe : (va_A [] s.heap.size) = A at hAw ⊢
  have hA : ∀ q : Nat, s.heap.size ≤ q → A q := fun q h => by rw [← hAe]; exact Or.inr h
  have hS : va_S A s.heap s.heap [] := va_S.rf
  have hXa := hX.nar hAw
  have hP : va_P (dC, dI) vwCl (xG L cid K N v) s.heap := hP
  have hl := lv_entry ([.ref p0.toNat, .int (iI p1), .int (iI p2), .int (iI p3)]) (n := 4) (Nat.le_of_ble_eq_true rfl)
  rw [lg_entry_eq]
  generalize (lg_sl ([.ref p0.toNat, .int (iI p1), .int (iI p2), .int (iI p3)]) ++ List.replicate (4 - (lg_sl ([.ref p0.toNat, .int (iI p1), .int (iI p2), .int (iI p3)])).length) Slot.unset).toArray = ls at hl ⊢
  have hl : lv_has ls 4 [(0, .ref p0.toNat), (1, .int (iI p1)), (2, .int (iI p2)), (3, .int (iI p3))] := hl
  generalize hQ : MQ below (va_Qi (fun (r : Int32) (_ : Unit) => ∃ z : Int, r = iI z ∧ (rg z) ∧ ((0 ≤ p2 ∧ p2 ≤ 2000 ∧ p3 = 0) → z = vat (v (v (v p0 14) 1)) (chw (v (v (v p0 14) 3)) (v (v (v p0 14) 4)) p2 600 (tell0 (v (v (v p0 14) 0)) p1))) ∧ ((0 ≤ p2 ∧ p2 ≤ 2000 ∧ p3 = 1) → z = vat (v (v (v p0 14) 2)) (chw (v (v (v p0 14) 3)) (v (v (v p0 14) 4)) p2 600 (tell0 (v (v (v p0 14) 0)) p1))) ∧ ((p2 < 0 ∨ 2000 < p2 ∨ (p3 ≠ 0 ∧ p3 ≠ 1)) → z = -1)) (fun _ _ => True) A) ([.ref p0.toNat, .int (iI p1), .int (iI p2), .int (iI p3)] : List Value).toArray s 0 0 A = Q
  suffices ST : ∀ (H : Heap) (locs : List Loc), va_P (dC, dI) vwCl (xG L cid K N v) H → va_S A s.heap H locs → W p l e ({ frames := 2, cells := 0, slots := 0, locals := 47 }) s m ([.ref p0.toNat, .int (iI p1), .int (iI p2), .int (iI p3)] : List Value).toArray below meth c H locs 0 0 Q (F0 m 0 ls []) from ST _ _ hP hS
  clear hP hS
  intro H locs hP hS
  refine lv_iload_n hx hb dX12_known_0 rfl (lv_at hl 2 rfl) ?_
  refine xr_if_lt (tgt := 11) hx hb dX12_known_1 (by decide) (by omega) (fun h_1 => ?_) (fun h_1 => ?_)
  · refine lv_iconst (v := iI (-1)) hx hb dX12_known_11 rfl ?_
    rw [← hQ]
    exact W.iret (v := iI (-1)) hx hb hr (fun t ht hW => ⟨⟨iI (-1), (), rfl, ⟨(-1), rfl, by omega, by intro h9; first | (exfalso; omega) | assumption, by intro h9; first | (exfalso; omega) | assumption, by intro h9; first | (exfalso; omega) | omega⟩, trivial⟩, hS.F ht⟩) hS.2.2 dX12_known_12
  · refine lv_iload_n hx hb dX12_known_4 rfl (lv_at hl 2 rfl) ?_
    refine lv_sipush (v := iI 2000) hx hb dX12_known_5 rfl ?_
    refine xr_icmp_le (tgt := 13) hx hb dX12_known_8 (by decide) (by omega) (by omega) (fun h_2 => ?_) (fun h_2 => ?_)
    · refine lv_iload_n hx hb dX12_known_13 rfl (lv_at hl 3 rfl) ?_
      refine xr_if_ne (tgt := 27) hx hb dX12_known_14 (by decide) (by omega) (fun h_3 => ?_) (fun h_3 => ?_)
      · refine lv_iload_n hx hb dX12_known_27 rfl (lv_at hl 3 rfl) ?_
        refine lv_iconst (v := iI 1) hx hb dX12_known_28 rfl ?_
        refine xr_icmp_ne (tgt := 44) hx hb dX12_known_29 (by decide) (by omega) (by omega) (fun h_4 => ?_) (fun h_4 => ?_)
        · refine lv_iconst (v := iI (-1)) hx hb dX12_known_44 rfl ?_
          rw [← hQ]
          exact W.iret (v := iI (-1)) hx hb hr (fun t ht hW => ⟨⟨iI (-1), (), rfl, ⟨(-1), rfl, by omega, by intro h9; first | (exfalso; omega) | assumption, by intro h9; first | (exfalso; omega) | assumption, by intro h9; first | (exfalso; omega) | omega⟩, trivial⟩, hS.F ht⟩) hS.2.2 dX12_known_45
        · refine lv_aload_n hx hb dX12_known_32 rfl (lv_at hl 0 rfl) ?_
          have h_5 : ok L K (v p0 14) 5 := xf_12_14 hI q0
          refine gx_RX12_66 (y := v p0 14) hx hb hj hown hK hP q0 ((xf_12_14 hI q0).1) rfl dX12_known_33 ?_
          refine lv_iload_n hx hb dX12_known_36 rfl (lv_at hl 1 rfl) ?_
          refine lv_iload_n hx hb dX12_known_37 rfl (lv_at hl 2 rfl) ?_
          refine jc_i (va_runV (As := [.int (iI p1), .int (iI p2)]) (rest := []) ⟨hx, hb, hml, hown, hts⟩ (sX5_sourceOn l dC dI _ L cid K N tW sK sV v (v p0 14) p1 p2 hI h_5 (by omega) (by omega)) (cwV 2 hts (jgoodV m_1121 m_1122 m_1123 m_923 m_1124) rfl rfl rfl (by decide +kernel) ⟨(Nat.le_of_ble_eq_true rfl), (Nat.le_of_ble_eq_true rfl)⟩) ⟨xP_blind, xrecv hK hP h_5 rfl rfl, fun U hU hW => ⟨rfl, xP_of hU hW hP hK hDw hX hS hAw hAA⟩⟩ rfl rfl hl.1 rfl (lv_room (Nat.le_of_ble_eq_true rfl)) dX12_known_38 ⟨(Nat.le_of_ble_eq_true rfl), (Nat.le_of_ble_eq_true rfl)⟩) hP hS hA (fun r_6 H locs w_7 hP hS => ?_)
          obtain ⟨z_8, rfl, h_9, h_10⟩ := w_7
          refine lv_goto (tgt := 45) hx hb dX12_known_41 (by decide) ?_
          rw [← hQ]
          exact W.iret (v := iI z_8) hx hb hr (fun t ht hW => ⟨⟨iI z_8, (), rfl, ⟨z_8, rfl, by omega, by intro h9; first | (exfalso; omega) | assumption, by intro h9; first | (exfalso; omega) | assumption, by intro h9; first | (exfalso; omega) | omega⟩, trivial⟩, hS.F ht⟩) hS.2.2 dX12_known_45
      · refine lv_aload_n hx hb dX12_known_17 rfl (lv_at hl 0 rfl) ?_
        have h_11 : ok L K (v p0 14) 5 := xf_12_14 hI q0
        refine gx_RX12_66 (y := v p0 14) hx hb hj hown hK hP q0 ((xf_12_14 hI q0).1) rfl dX12_known_18 ?_
        refine lv_iload_n hx hb dX12_known_21 rfl (lv_at hl 1 rfl) ?_
        refine lv_iload_n hx hb dX12_known_22 rfl (lv_at hl 2 rfl) ?_
        refine jc_i (va_runV (As := [.int (iI p1), .int (iI p2)]) (rest := []) ⟨hx, hb, hml, hown, hts⟩ (sX5_valueOn l dC dI _ L cid K N tW sK sV v (v p0 14) p1 p2 hI h_11 (by omega) (by omega)) (cwV 2 hts (jgoodV m_1105 m_1106 m_1107 m_923 m_1108) rfl rfl rfl (by decide +kernel) ⟨(Nat.le_of_ble_eq_true rfl), (Nat.le_of_ble_eq_true rfl)⟩) ⟨xP_blind, xrecv hK hP h_11 rfl rfl, fun U hU hW => ⟨rfl, xP_of hU hW hP hK hDw hX hS hAw hAA⟩⟩ rfl rfl hl.1 rfl (lv_room (Nat.le_of_ble_eq_true rfl)) dX12_known_23 ⟨(Nat.le_of_ble_eq_true rfl), (Nat.le_of_ble_eq_true rfl)⟩) hP hS hA (fun r_12 H locs w_13 hP hS => ?_)
        obtain ⟨z_14, rfl, h_15, h_16⟩ := w_13
        rw [← hQ]
        exact W.iret (v := iI z_14) hx hb hr (fun t ht hW => ⟨⟨iI z_14, (), rfl, ⟨z_14, rfl, by omega, by intro h9; first | (exfalso; omega) | assumption, by intro h9; first | (exfalso; omega) | assumption, by intro h9; first | (exfalso; omega) | omega⟩, trivial⟩, hS.F ht⟩) hS.2.2 dX12_known_26
    · refine lv_iconst (v := iI (-1)) hx hb dX12_known_11 rfl ?_
      rw [← hQ]
      exact W.iret (v := iI (-1)) hx hb hr (fun t ht hW => ⟨⟨iI (-1), (), rfl, ⟨(-1), rfl, by omega, by intro h9; first | (exfalso; omega) | assumption, by intro h9; first | (exfalso; omega) | assumption, by intro h9; first | (exfalso; omega) | omega⟩, trivial⟩, hS.F ht⟩) hS.2.2 dX12_known_12
set_option maxHeartbeats 2000000 in
set_option maxRecDepth 100000 in
theorem sX12_isStale (l : Launch) (dC : Nat → ClassId) (dI : Nat → Nat → Nat) (sz : Nat) (L : List Nat) (cid : Nat → ClassId) (K : Int → Nat) (N : Int → Int) (tW : Nat) (sK sV : Nat → Nat) (v : Int → Int → Int) (p0 : Int) (p1 : Int) (p2 : Int) (hI : xI L K N v) (q0 : ok L K p0 12) (q1 : ok L K p1 4) (q2 : rg p2) : Met l yX12_isStale (jk yX12_isStale cX12_isStale 4 (some .boolean)) ({ frames := 2, cells := 0, slots := 0, locals := 47 }) (va_Pc [.ref p0.toNat, .ref p1.toNat, .int (iI p2)] (xP (dC, dI) (xG L cid K N v) (xT cid) tW sK sV sz)) (va_Qi (fun (r : Int32) (_ : Unit) => ∃ z : Int, r = iI z ∧ (0 ≤ z ∧ z ≤ 1)) (fun _ _ => True) (va_A [] sz)) 0 0 (va_A [] sz) := by
  refine Met.ofW (cc := cX12_isStale) (maxL := 4) (ret := (some .boolean)) (by decide) rfl ?_
  intro p e s m args below meth c s₁ B hml hv
  obtain ⟨rfl, ⟨hsz, hP, hK, hD0⟩, hX⟩ := hv
  have hx := B.exec
  have hb := B.bytes
  have hr := B.returns
  have hts := atoms_spec (ws := (jk yX12_isStale cX12_isStale 4 (some .boolean))) B.pre
  have hj : ∀ w ∈ jw, w.before ([.ref p0.toNat, .ref p1.toNat, .int (iI p2)] : List Value).toArray s = true := fun w h => hts w (jm h)
  have hown : s.vm.findClass RX12 = some m.cls := findClass_of_methodNamed B.named
  subst hsz
  have hDw := hD0.self (sz := s.heap.size)
  have hAA : ∀ q : Nat, s.heap.size ≤ q → va_A (xG L cid K N v) s.heap.size q := fun q h => Or.inr h
  have hAw : ∀ q, va_A [] s.heap.size q → va_A (xG L cid K N v) s.heap.size q := ja_nil va_S.rf hAA
  generalize hAe : (va_A [] s.heap.size) = A at hAw ⊢
  have hA : ∀ q : Nat, s.heap.size ≤ q → A q := fun q h => by rw [← hAe]; exact Or.inr h
  have hS : va_S A s.heap s.heap [] := va_S.rf
  have hXa := hX.nar hAw
  have hP : va_P (dC, dI) vwCl (xG L cid K N v) s.heap := hP
  have hl := lv_entry ([.ref p0.toNat, .ref p1.toNat, .int (iI p2)]) (n := 4) (Nat.le_of_ble_eq_true rfl)
  rw [lg_entry_eq]
  generalize (lg_sl ([.ref p0.toNat, .ref p1.toNat, .int (iI p2)]) ++ List.replicate (4 - (lg_sl ([.ref p0.toNat, .ref p1.toNat, .int (iI p2)])).length) Slot.unset).toArray = ls at hl ⊢
  have hl : lv_has ls 4 [(0, .ref p0.toNat), (1, .ref p1.toNat), (2, .int (iI p2))] := hl
  generalize hQ : MQ below (va_Qi (fun (r : Int32) (_ : Unit) => ∃ z : Int, r = iI z ∧ (0 ≤ z ∧ z ≤ 1)) (fun _ _ => True) A) ([.ref p0.toNat, .ref p1.toNat, .int (iI p2)] : List Value).toArray s 0 0 A = Q
  suffices ST : ∀ (H : Heap) (locs : List Loc), va_P (dC, dI) vwCl (xG L cid K N v) H → va_S A s.heap H locs → W p l e ({ frames := 2, cells := 0, slots := 0, locals := 47 }) s m ([.ref p0.toNat, .ref p1.toNat, .int (iI p2)] : List Value).toArray below meth c H locs 0 0 Q (F0 m 0 ls []) from ST _ _ hP hS
  clear hP hS
  intro H locs hP hS
  refine lv_aload_n hx hb dX12_isStale_0 rfl (lv_at hl 0 rfl) ?_
  refine lv_aload_n hx hb dX12_isStale_1 rfl (lv_at hl 1 rfl) ?_
  have h_1 : (-2147483648) ≤ v p1 5 ∧ v p1 5 ≤ 2147483647 := xf_4_5 hI q1
  refine gx_RX12_396 (y := v p1 5) hx hb hj hown hK hP q1 rfl dX12_isStale_2 ?_
  refine jc_q (va_runV (As := [.int (iI (v p1 5))]) (rest := []) ⟨hx, hb, hml, hown, hts⟩ (sX12_lineAt l dC dI _ L cid K N tW sK sV v p0 (v p1 5) hI q0 (by omega)) (cwV 1 hts (jgoodV m_1109 m_1110 m_1111 m_873 m_1112) rfl rfl rfl (by decide +kernel) ⟨(Nat.le_of_ble_eq_true rfl), (Nat.le_of_ble_eq_true rfl)⟩) ⟨xP_blind, xrecv hK hP q0 rfl rfl, fun U hU hW => ⟨rfl, xP_of hU hW hP hK hDw hX hS hAw hAA⟩⟩ rfl rfl hl.1 rfl (lv_room (Nat.le_of_ble_eq_true rfl)) dX12_isStale_5 ⟨(Nat.le_of_ble_eq_true rfl), (Nat.le_of_ble_eq_true rfl)⟩) hP hS hA (fun r_2 H locs w_3 hP hS => ?_)
  obtain ⟨z_4, rfl, h_5⟩ := w_3
  refine jt_q (rv z_4) rfl ?_
  refine xq_astore_n (i := 3) (lv' := [(3, rv z_4), (0, .ref p0.toNat), (1, .ref p1.toNat), (2, .int (iI p2))]) hx hb dX12_isStale_8 rfl hl (by decide) rfl (fun ls hl => ?_)
  refine xq_aload_n hx hb dX12_isStale_9 rfl (lv_at hl 0 rfl) ?_
  refine xq_ifnonnull (tgt := 15) hx hb dX12_isStale_10 (by decide) (fun h_6 => ?_) (fun h_6 => ?_)
  · have h_7 : ok L K z_4 4 := h_5.resolve_left (by omega)
    refine lv_aload_n hx hb dX12_isStale_15 rfl (lv_at hl 1 rfl) ?_
    have h_8 : ok L K (v p0 14) 5 := xf_12_14 hI q0
    refine gx_RX12_66 (y := v p0 14) hx hb hj hown hK hP q0 ((xf_12_14 hI q0).1) rfl dX12_isStale_16 ?_
    refine xq_aload_n hx hb dX12_isStale_19 rfl (lv_at hl 0 rfl) ?_
    refine jt_q (.ref z_4.toNat) (rv_ref (h_7).1) ?_
    have h_9 : (-2147483648) ≤ v z_4 3 ∧ v z_4 3 ≤ 2147483647 := xf_4_3 hI h_7
    refine gx_RX12_385 (y := v z_4 3) hx hb hj hown hK hP h_7 rfl dX12_isStale_20 ?_
    refine lv_iload_n hx hb dX12_isStale_23 rfl (lv_at hl 3 rfl) ?_
    refine jc_i (va_runV (As := [.int (iI (v z_4 3)), .int (iI p2)]) (rest := []) ⟨hx, hb, hml, hown, hts⟩ (sX5_valueOn l dC dI _ L cid K N tW sK sV v (v p0 14) (v z_4 3) p2 hI h_8 (by omega) (by omega)) (cwV 2 hts (jgoodV m_1105 m_1106 m_1107 m_923 m_1108) rfl rfl rfl (by decide +kernel) ⟨(Nat.le_of_ble_eq_true rfl), (Nat.le_of_ble_eq_true rfl)⟩) ⟨xP_blind, xrecv hK hP h_8 rfl rfl, fun U hU hW => ⟨rfl, xP_of hU hW hP hK hDw hX hS hAw hAA⟩⟩ rfl rfl hl.1 rfl (lv_room (Nat.le_of_ble_eq_true rfl)) dX12_isStale_24 ⟨(Nat.le_of_ble_eq_true rfl), (Nat.le_of_ble_eq_true rfl)⟩) hP hS hA (fun r_10 H locs w_11 hP hS => ?_)
    obtain ⟨z_12, rfl, h_13, h_14⟩ := w_11
    refine lv_aload_n hx hb dX12_isStale_27 rfl (lv_at hl 1 rfl) ?_
    refine gx_RX12_66 (y := v p0 14) hx hb hj hown hK hP q0 ((xf_12_14 hI q0).1) rfl dX12_isStale_28 ?_
    refine lv_aload_n hx hb dX12_isStale_31 rfl (lv_at hl 2 rfl) ?_
    refine gx_RX12_396 (y := v p1 5) hx hb hj hown hK hP q1 rfl dX12_isStale_32 ?_
    refine xq_aload_n hx hb dX12_isStale_35 rfl (lv_at hl 0 rfl) ?_
    refine jt_q (.ref z_4.toNat) (rv_ref (h_7).1) ?_
    have h_15 : (-2147483648) ≤ v z_4 6 ∧ v z_4 6 ≤ 2147483647 := xf_4_6 hI h_7
    refine gx_RX12_399 (y := v z_4 6) hx hb hj hown hK hP h_7 rfl dX12_isStale_36 ?_
    refine lv_iload_n hx hb dX12_isStale_39 rfl (lv_at hl 3 rfl) ?_
    refine jc_i (va_runV (As := [.int (iI (v p1 5)), .int (iI (v z_4 6)), .int (iI p2)]) (rest := [.int (iI z_12)]) ⟨hx, hb, hml, hown, hts⟩ (sX5_keptOn l dC dI _ L cid K N tW sK sV v (v p0 14) (v p1 5) (v z_4 6) p2 hI h_8 (by omega) (by omega) (by omega)) (cwV 3 hts (jgoodV m_1125 m_1126 m_1127 m_923 m_1128) rfl rfl rfl (by decide +kernel) ⟨(Nat.le_of_ble_eq_true rfl), (Nat.le_of_ble_eq_true rfl)⟩) ⟨xP_blind, xrecv hK hP h_8 rfl rfl, fun U hU hW => ⟨rfl, xP_of hU hW hP hK hDw hX hS hAw hAA⟩⟩ rfl rfl hl.1 rfl (lv_room (Nat.le_of_ble_eq_true rfl)) dX12_isStale_40 ⟨(Nat.le_of_ble_eq_true rfl), (Nat.le_of_ble_eq_true rfl)⟩) hP hS hA (fun r_16 H locs w_17 hP hS => ?_)
    obtain ⟨z_18, rfl, h_19⟩ := w_17
    refine xr_icmp_eq (tgt := 50) hx hb dX12_isStale_43 (by decide) (by omega) (by omega) (fun h_20 => ?_) (fun h_20 => ?_)
    · refine lv_iconst (v := iI 0) hx hb dX12_isStale_50 rfl ?_
      rw [← hQ]
      exact W.zret (v := iI 0) (ty := .boolean) hx hb hr (nb_bool (by omega) (by omega)) (fun t ht hW => ⟨⟨iI 0, (), rfl, ⟨0, rfl, by omega⟩, trivial⟩, hS.F ht⟩) hS.2.2 dX12_isStale_51
    · refine lv_iconst (v := iI 1) hx hb dX12_isStale_46 rfl ?_
      refine lv_goto (tgt := 51) hx hb dX12_isStale_47 (by decide) ?_
      rw [← hQ]
      exact W.zret (v := iI 1) (ty := .boolean) hx hb hr (nb_bool (by omega) (by omega)) (fun t ht hW => ⟨⟨iI 1, (), rfl, ⟨1, rfl, by omega⟩, trivial⟩, hS.F ht⟩) hS.2.2 dX12_isStale_51
  · refine lv_iconst (v := iI 0) hx hb dX12_isStale_13 rfl ?_
    rw [← hQ]
    exact W.zret (v := iI 0) (ty := .boolean) hx hb hr (nb_bool (by omega) (by omega)) (fun t ht hW => ⟨⟨iI 0, (), rfl, ⟨0, rfl, by omega⟩, trivial⟩, hS.F ht⟩) hS.2.2 dX12_isStale_14
set_option maxHeartbeats 2000000 in
set_option maxRecDepth 100000 in
theorem sX12_stale (l : Launch) (dC : Nat → ClassId) (dI : Nat → Nat → Nat) (sz : Nat) (L : List Nat) (cid : Nat → ClassId) (K : Int → Nat) (N : Int → Int) (tW : Nat) (sK sV : Nat → Nat) (v : Int → Int → Int) (p0 : Int) (p1 : Int) (p2 : Int) (hI : xI L K N v) (q0 : ok L K p0 12) (q1 : rg p1) (q2 : rg p2) : Met l yX12_stale (jk yX12_stale cX12_stale 4 (some .boolean)) ({ frames := 3, cells := 0, slots := 0, locals := 70 }) (va_Pc [.ref p0.toNat, .int (iI p1), .int (iI p2)] (xP (dC, dI) (xG L cid K N v) (xT cid) tW sK sV sz)) (va_Qi (fun (r : Int32) (_ : Unit) => ∃ z : Int, r = iI z ∧ (0 ≤ z ∧ z ≤ 1)) (fun _ _ => True) (va_A [] sz)) 0 0 (va_A [] sz) := by
  refine Met.ofW (cc := cX12_stale) (maxL := 4) (ret := (some .boolean)) (by decide) rfl ?_
  intro p e s m args below meth c s₁ B hml hv
  obtain ⟨rfl, ⟨hsz, hP, hK, hD0⟩, hX⟩ := hv
  have hx := B.exec
  have hb := B.bytes
  have hr := B.returns
  have hts := atoms_spec (ws := (jk yX12_stale cX12_stale 4 (some .boolean))) B.pre
  have hj : ∀ w ∈ jw, w.before ([.ref p0.toNat, .int (iI p1), .int (iI p2)] : List Value).toArray s = true := fun w h => hts w (jm h)
  have hown : s.vm.findClass RX12 = some m.cls := findClass_of_methodNamed B.named
  subst hsz
  have hDw := hD0.self (sz := s.heap.size)
  have hAA : ∀ q : Nat, s.heap.size ≤ q → va_A (xG L cid K N v) s.heap.size q := fun q h => Or.inr h
  have hAw : ∀ q, va_A [] s.heap.size q → va_A (xG L cid K N v) s.heap.size q := ja_nil va_S.rf hAA
  generalize hAe : (va_A [] s.heap.size) = A at hAw ⊢
  have hA : ∀ q : Nat, s.heap.size ≤ q → A q := fun q h => by rw [← hAe]; exact Or.inr h
  have hS : va_S A s.heap s.heap [] := va_S.rf
  have hXa := hX.nar hAw
  have hP : va_P (dC, dI) vwCl (xG L cid K N v) s.heap := hP
  have hl := lv_entry ([.ref p0.toNat, .int (iI p1), .int (iI p2)]) (n := 4) (Nat.le_of_ble_eq_true rfl)
  rw [lg_entry_eq]
  generalize (lg_sl ([.ref p0.toNat, .int (iI p1), .int (iI p2)]) ++ List.replicate (4 - (lg_sl ([.ref p0.toNat, .int (iI p1), .int (iI p2)])).length) Slot.unset).toArray = ls at hl ⊢
  have hl : lv_has ls 4 [(0, .ref p0.toNat), (1, .int (iI p1)), (2, .int (iI p2))] := hl
  generalize hQ : MQ below (va_Qi (fun (r : Int32) (_ : Unit) => ∃ z : Int, r = iI z ∧ (0 ≤ z ∧ z ≤ 1)) (fun _ _ => True) A) ([.ref p0.toNat, .int (iI p1), .int (iI p2)] : List Value).toArray s 0 0 A = Q
  suffices ST : ∀ (H : Heap) (locs : List Loc), va_P (dC, dI) vwCl (xG L cid K N v) H → va_S A s.heap H locs → W p l e ({ frames := 3, cells := 0, slots := 0, locals := 70 }) s m ([.ref p0.toNat, .int (iI p1), .int (iI p2)] : List Value).toArray below meth c H locs 0 0 Q (F0 m 0 ls []) from ST _ _ hP hS
  clear hP hS
  intro H locs hP hS
  refine lv_aload_n hx hb dX12_stale_0 rfl (lv_at hl 0 rfl) ?_
  refine lv_iload_n hx hb dX12_stale_1 rfl (lv_at hl 1 rfl) ?_
  refine jc_q (va_runV (As := [.int (iI p1)]) (rest := []) ⟨hx, hb, hml, hown, hts⟩ (sX12_lineAt l dC dI _ L cid K N tW sK sV v p0 p1 hI q0 (by omega)) (cwV 1 hts (jgoodV m_1109 m_1110 m_1111 m_873 m_1112) rfl rfl rfl (by decide +kernel) ⟨(Nat.le_of_ble_eq_true rfl), (Nat.le_of_ble_eq_true rfl)⟩) ⟨xP_blind, xrecv hK hP q0 rfl rfl, fun U hU hW => ⟨rfl, xP_of hU hW hP hK hDw hX hS hAw hAA⟩⟩ rfl rfl hl.1 rfl (lv_room (Nat.le_of_ble_eq_true rfl)) dX12_stale_2 ⟨(Nat.le_of_ble_eq_true rfl), (Nat.le_of_ble_eq_true rfl)⟩) hP hS hA (fun r_1 H locs w_2 hP hS => ?_)
  obtain ⟨z_3, rfl, h_4⟩ := w_2
  refine jt_q (rv z_3) rfl ?_
  refine xq_astore_n (i := 3) (lv' := [(3, rv z_3), (0, .ref p0.toNat), (1, .int (iI p1)), (2, .int (iI p2))]) hx hb dX12_stale_5 rfl hl (by decide) rfl (fun ls hl => ?_)
  refine xq_aload_n hx hb dX12_stale_6 rfl (lv_at hl 0 rfl) ?_
  refine xq_ifnull (tgt := 34) hx hb dX12_stale_7 (by decide) (fun h_5 => ?_) (fun h_5 => ?_)
  · refine lv_iconst (v := iI 0) hx hb dX12_stale_34 rfl ?_
    rw [← hQ]
    exact W.zret (v := iI 0) (ty := .boolean) hx hb hr (nb_bool (by omega) (by omega)) (fun t ht hW => ⟨⟨iI 0, (), rfl, ⟨0, rfl, by omega⟩, trivial⟩, hS.F ht⟩) hS.2.2 dX12_stale_35
  · have h_6 : ok L K z_3 4 := h_4.resolve_left (by omega)
    refine lv_iload_n hx hb dX12_stale_10 rfl (lv_at hl 3 rfl) ?_
    refine xr_if_lt (tgt := 34) hx hb dX12_stale_11 (by decide) (by omega) (fun h_7 => ?_) (fun h_7 => ?_)
    · refine lv_iconst (v := iI 0) hx hb dX12_stale_34 rfl ?_
      rw [← hQ]
      exact W.zret (v := iI 0) (ty := .boolean) hx hb hr (nb_bool (by omega) (by omega)) (fun t ht hW => ⟨⟨iI 0, (), rfl, ⟨0, rfl, by omega⟩, trivial⟩, hS.F ht⟩) hS.2.2 dX12_stale_35
    · refine lv_iload_n hx hb dX12_stale_14 rfl (lv_at hl 3 rfl) ?_
      refine lv_sipush (v := iI 2000) hx hb dX12_stale_15 rfl ?_
      refine xr_icmp_gt (tgt := 34) hx hb dX12_stale_18 (by decide) (by omega) (by omega) (fun h_8 => ?_) (fun h_8 => ?_)
      · refine lv_iconst (v := iI 0) hx hb dX12_stale_34 rfl ?_
        rw [← hQ]
        exact W.zret (v := iI 0) (ty := .boolean) hx hb hr (nb_bool (by omega) (by omega)) (fun t ht hW => ⟨⟨iI 0, (), rfl, ⟨0, rfl, by omega⟩, trivial⟩, hS.F ht⟩) hS.2.2 dX12_stale_35
      · refine lv_aload_n hx hb dX12_stale_21 rfl (lv_at hl 1 rfl) ?_
        refine xq_aload_n hx hb dX12_stale_22 rfl (lv_at hl 0 rfl) ?_
        refine jt_q (.ref z_3.toNat) (rv_ref (h_6).1) ?_
        refine lv_iload_n hx hb dX12_stale_23 rfl (lv_at hl 3 rfl) ?_
        refine jc_i (va_runV (As := [.ref z_3.toNat, .int (iI p2)]) (rest := []) ⟨hx, hb, hml, hown, hts⟩ (sX12_isStale l dC dI _ L cid K N tW sK sV v p0 z_3 p2 hI q0 h_6 (by omega)) (cwV 2 hts (jgoodV m_1129 m_1130 m_1131 m_873 m_1132) rfl rfl rfl (by decide +kernel) ⟨(Nat.le_of_ble_eq_true rfl), (Nat.le_of_ble_eq_true rfl)⟩) ⟨xP_blind, xrecv hK hP q0 rfl rfl, fun U hU hW => ⟨rfl, xP_of hU hW hP hK hDw hX hS hAw hAA⟩⟩ rfl rfl hl.1 rfl (lv_room (Nat.le_of_ble_eq_true rfl)) dX12_stale_24 ⟨(Nat.le_of_ble_eq_true rfl), (Nat.le_of_ble_eq_true rfl)⟩) hP hS hA (fun r_9 H locs w_10 hP hS => ?_)
        obtain ⟨z_11, rfl, h_12⟩ := w_10
        refine xr_if_eq (tgt := 34) hx hb dX12_stale_27 (by decide) (by omega) (fun h_13 => ?_) (fun h_13 => ?_)
        · refine lv_iconst (v := iI 0) hx hb dX12_stale_34 rfl ?_
          rw [← hQ]
          exact W.zret (v := iI 0) (ty := .boolean) hx hb hr (nb_bool (by omega) (by omega)) (fun t ht hW => ⟨⟨iI 0, (), rfl, ⟨0, rfl, by omega⟩, trivial⟩, hS.F ht⟩) hS.2.2 dX12_stale_35
        · refine lv_iconst (v := iI 1) hx hb dX12_stale_30 rfl ?_
          refine lv_goto (tgt := 35) hx hb dX12_stale_31 (by decide) ?_
          rw [← hQ]
          exact W.zret (v := iI 1) (ty := .boolean) hx hb hr (nb_bool (by omega) (by omega)) (fun t ht hW => ⟨⟨iI 1, (), rfl, ⟨1, rfl, by omega⟩, trivial⟩, hS.F ht⟩) hS.2.2 dX12_stale_35
set_option maxHeartbeats 2000000 in
set_option maxRecDepth 100000 in
theorem sX12_stales (l : Launch) (dC : Nat → ClassId) (dI : Nat → Nat → Nat) (sz : Nat) (L : List Nat) (cid : Nat → ClassId) (K : Int → Nat) (N : Int → Int) (tW : Nat) (sK sV : Nat → Nat) (v : Int → Int → Int) (p0 : Int) (p1 : Int) (hI : xI L K N v) (q0 : ok L K p0 12) (q1 : rg p1) : Met l yX12_stales (jk yX12_stales cX12_stales 5 (some .int)) ({ frames := 3, cells := 0, slots := 0, locals := 70 }) (va_Pc [.ref p0.toNat, .int (iI p1)] (xP (dC, dI) (xG L cid K N v) (xT cid) tW sK sV sz)) (va_Qi (fun (r : Int32) (_ : Unit) => ∃ z : Int, r = iI z ∧ (rg z)) (fun _ _ => True) (va_A [] sz)) 0 0 (va_A [] sz) := by
  refine Met.ofW (cc := cX12_stales) (maxL := 5) (ret := (some .int)) (by decide) rfl ?_
  intro p e s m args below meth c s₁ B hml hv
  obtain ⟨rfl, ⟨hsz, hP, hK, hD0⟩, hX⟩ := hv
  have hx := B.exec
  have hb := B.bytes
  have hr := B.returns
  have hts := atoms_spec (ws := (jk yX12_stales cX12_stales 5 (some .int))) B.pre
  have hj : ∀ w ∈ jw, w.before ([.ref p0.toNat, .int (iI p1)] : List Value).toArray s = true := fun w h => hts w (jm h)
  have hown : s.vm.findClass RX12 = some m.cls := findClass_of_methodNamed B.named
  subst hsz
  have hDw := hD0.self (sz := s.heap.size)
  have hAA : ∀ q : Nat, s.heap.size ≤ q → va_A (xG L cid K N v) s.heap.size q := fun q h => Or.inr h
  have hAw : ∀ q, va_A [] s.heap.size q → va_A (xG L cid K N v) s.heap.size q := ja_nil va_S.rf hAA
  generalize hAe : (va_A [] s.heap.size) = A at hAw ⊢
  have hA : ∀ q : Nat, s.heap.size ≤ q → A q := fun q h => by rw [← hAe]; exact Or.inr h
  have hS : va_S A s.heap s.heap [] := va_S.rf
  have hXa := hX.nar hAw
  have hP : va_P (dC, dI) vwCl (xG L cid K N v) s.heap := hP
  have hl := lv_entry ([.ref p0.toNat, .int (iI p1)]) (n := 5) (Nat.le_of_ble_eq_true rfl)
  rw [lg_entry_eq]
  generalize (lg_sl ([.ref p0.toNat, .int (iI p1)]) ++ List.replicate (5 - (lg_sl ([.ref p0.toNat, .int (iI p1)])).length) Slot.unset).toArray = ls at hl ⊢
  have hl : lv_has ls 5 [(0, .ref p0.toNat), (1, .int (iI p1))] := hl
  generalize hQ : MQ below (va_Qi (fun (r : Int32) (_ : Unit) => ∃ z : Int, r = iI z ∧ (rg z)) (fun _ _ => True) A) ([.ref p0.toNat, .int (iI p1)] : List Value).toArray s 0 0 A = Q
  suffices ST : ∀ (H : Heap) (locs : List Loc), va_P (dC, dI) vwCl (xG L cid K N v) H → va_S A s.heap H locs → W p l e ({ frames := 3, cells := 0, slots := 0, locals := 70 }) s m ([.ref p0.toNat, .int (iI p1)] : List Value).toArray below meth c H locs 0 0 Q (F0 m 0 ls []) from ST _ _ hP hS
  clear hP hS
  intro H locs hP hS
  refine lv_aload_n hx hb dX12_stales_0 rfl (lv_at hl 0 rfl) ?_
  refine lv_iload_n hx hb dX12_stales_1 rfl (lv_at hl 1 rfl) ?_
  refine jc_q (va_runV (As := [.int (iI p1)]) (rest := []) ⟨hx, hb, hml, hown, hts⟩ (sX12_entryAt l dC dI _ L cid K N tW sK sV v p0 p1 hI q0 (by omega)) (cwV 1 hts (jgoodV m_870 m_871 m_872 m_873 m_874) rfl rfl rfl (by decide +kernel) ⟨(Nat.le_of_ble_eq_true rfl), (Nat.le_of_ble_eq_true rfl)⟩) ⟨xP_blind, xrecv hK hP q0 rfl rfl, fun U hU hW => ⟨rfl, xP_of hU hW hP hK hDw hX hS hAw hAA⟩⟩ rfl rfl hl.1 rfl (lv_room (Nat.le_of_ble_eq_true rfl)) dX12_stales_2 ⟨(Nat.le_of_ble_eq_true rfl), (Nat.le_of_ble_eq_true rfl)⟩) hP hS hA (fun r_1 H locs w_2 hP hS => ?_)
  obtain ⟨z_3, rfl, h_4⟩ := w_2
  refine jt_q (rv z_3) rfl ?_
  refine xq_ifnonnull (tgt := 10) hx hb dX12_stales_5 (by decide) (fun h_5 => ?_) (fun h_5 => ?_)
  · have h_6 : ok L K z_3 0 := h_4.resolve_left (by omega)
    refine lv_iconst (v := iI 0) hx hb dX12_stales_10 rfl ?_
    refine lv_istore_n (i := 2) (lv' := [(2, .int (iI 0)), (0, .ref p0.toNat), (1, .int (iI p1))]) hx hb dX12_stales_11 rfl hl (by decide) rfl (fun ls hl => ?_)
    refine lv_iconst (v := iI 0) hx hb dX12_stales_12 rfl ?_
    refine lv_istore_n (i := 3) (lv' := [(3, .int (iI 0)), (2, .int (iI 0)), (0, .ref p0.toNat), (1, .int (iI p1))]) hx hb dX12_stales_13 rfl hl (by decide) rfl (fun ls hl => ?_)
    have L14 : ∀ (n14 : Nat) (a3_14 a2_14 : Int) (H : Heap) (locs : List Loc) (ls : Array Slot), (0 ≤ a3_14 ∧ a3_14 ≤ 2147483647) → ((-2147483648) ≤ a2_14 ∧ a2_14 ≤ 2147483647) → (0 < (n14 : Int) ∧ (v p0 13) - a3_14 < (n14 : Int)) → va_P (dC, dI) vwCl (xG L cid K N v) H → va_S A s.heap H locs → lv_has ls 5 [(3, .int (iI a3_14)), (2, .int (iI a2_14)), (0, .ref p0.toNat), (1, .int (iI p1))] → W p l e ({ frames := 3, cells := 0, slots := 0, locals := 70 }) s m ([.ref p0.toNat, .int (iI p1)] : List Value).toArray below meth c H locs 0 0 Q (F0 m 14 ls []) := by
      intro n14
      induction n14 with
      | zero =>
        intro a3_14 a2_14 H locs ls h_7 h_8 hm14 hP hS hl
        exfalso; omega
      | succ n14 ih14 =>
        intro a3_14 a2_14 H locs ls h_9 h_10 hm14 hP hS hl
        refine lv_iload_n hx hb dX12_stales_14 rfl (lv_at hl 0 rfl) ?_
        refine lv_aload_n hx hb dX12_stales_15 rfl (lv_at hl 2 rfl) ?_
        have h_11 : 0 ≤ v p0 13 ∧ v p0 13 ≤ 300 := xf_12_13 hI q0
        refine gx_RX12_370 (y := v p0 13) hx hb hj hown hK hP q0 rfl dX12_stales_16 ?_
        refine xr_icmp_ge (tgt := 65) hx hb dX12_stales_19 (by decide) (by omega) (by omega) (fun h_12 => ?_) (fun h_12 => ?_)
        · refine lv_iload_n hx hb dX12_stales_65 rfl (lv_at hl 1 rfl) ?_
          rw [← hQ]
          exact W.iret (v := iI a2_14) hx hb hr (fun t ht hW => ⟨⟨iI a2_14, (), rfl, ⟨a2_14, rfl, by omega⟩, trivial⟩, hS.F ht⟩) hS.2.2 dX12_stales_66
        · refine lv_aload_n hx hb dX12_stales_22 rfl (lv_at hl 2 rfl) ?_
          refine lv_iload_n hx hb dX12_stales_23 rfl (lv_at hl 0 rfl) ?_
          refine jc_q (va_runV (As := [.int (iI a3_14)]) (rest := []) ⟨hx, hb, hml, hown, hts⟩ (sX12_lineAt l dC dI _ L cid K N tW sK sV v p0 a3_14 hI q0 (by omega)) (cwV 1 hts (jgoodV m_1109 m_1110 m_1111 m_873 m_1112) rfl rfl rfl (by decide +kernel) ⟨(Nat.le_of_ble_eq_true rfl), (Nat.le_of_ble_eq_true rfl)⟩) ⟨xP_blind, xrecv hK hP q0 rfl rfl, fun U hU hW => ⟨rfl, xP_of hU hW hP hK hDw hX hS hAw hAA⟩⟩ rfl rfl hl.1 rfl (lv_room (Nat.le_of_ble_eq_true rfl)) dX12_stales_24 ⟨(Nat.le_of_ble_eq_true rfl), (Nat.le_of_ble_eq_true rfl)⟩) hP hS hA (fun r_13 H locs w_14 hP hS => ?_)
          obtain ⟨z_15, rfl, h_16⟩ := w_14
          refine jt_q (rv z_15) rfl ?_
          refine xq_astore (i := 4) (lv' := [(4, rv z_15), (3, .int (iI a3_14)), (2, .int (iI a2_14)), (0, .ref p0.toNat), (1, .int (iI p1))]) hx hb dX12_stales_27 hl (by decide) rfl (fun ls hl => ?_)
          refine xq_aload hx hb dX12_stales_29 (lv_at hl 0 rfl) ?_
          have J59 : ∀ (a2_59 : Int) (H : Heap) (locs : List Loc) (ls : Array Slot), ((-2147483648) ≤ a2_59 ∧ a2_59 ≤ 2147483647) → va_P (dC, dI) vwCl (xG L cid K N v) H → va_S A s.heap H locs → lv_has ls 5 [(4, rv z_15), (3, .int (iI a3_14)), (2, .int (iI a2_59)), (0, .ref p0.toNat), (1, .int (iI p1))] → W p l e ({ frames := 3, cells := 0, slots := 0, locals := 70 }) s m ([.ref p0.toNat, .int (iI p1)] : List Value).toArray below meth c H locs 0 0 Q (F0 m 59 ls []) := by
            intro a2_59 H locs ls h_17 hP hS hl
            refine lv_iinc (v := iI (a3_14 + 1)) (lv' := [(3, .int (iI (a3_14 + 1))), (4, rv z_15), (2, .int (iI a2_59)), (0, .ref p0.toNat), (1, .int (iI p1))]) hx hb dX12_stales_59 hl (k := 1) rfl (iI_add _ _) (by decide) rfl (fun ls hl => ?_)
            refine lv_goto (tgt := 14) hx hb dX12_stales_62 (by decide) ?_
            exact ih14 (a3_14 + 1) a2_59 H locs ls (by omega) (by omega) (by omega) hP hS (lv_sub hl [0, 2, 3, 4] rfl)
          refine xq_ifnull (tgt := 59) hx hb dX12_stales_31 (by decide) (fun h_18 => ?_) (fun h_18 => ?_)
          · exact J59 a2_14 H locs ls (by omega) hP hS hl
          · have h_19 : ok L K z_15 4 := h_16.resolve_left (by omega)
            refine xq_aload hx hb dX12_stales_34 (lv_at hl 0 rfl) ?_
            refine jt_q (.ref z_15.toNat) (rv_ref (h_19).1) ?_
            have h_20 : (-2147483648) ≤ v z_15 0 ∧ v z_15 0 ≤ 2147483647 := xf_4_0 hI h_19
            refine gx_RX12_422 (y := v z_15 0) hx hb hj hown hK hP h_19 rfl dX12_stales_36 ?_
            refine lv_iload_n hx hb dX12_stales_39 rfl (lv_at hl 4 rfl) ?_
            refine xr_icmp_ne (tgt := 59) hx hb dX12_stales_40 (by decide) (by omega) (by omega) (fun h_21 => ?_) (fun h_21 => ?_)
            · exact J59 a2_14 H locs ls (by omega) hP hS hl
            · refine lv_aload_n hx hb dX12_stales_43 rfl (lv_at hl 3 rfl) ?_
              refine xq_aload hx hb dX12_stales_44 (lv_at hl 0 rfl) ?_
              refine jt_q (.ref z_15.toNat) (rv_ref (h_19).1) ?_
              refine lv_aload_n hx hb dX12_stales_46 rfl (lv_at hl 3 rfl) ?_
              have h_22 : 0 ≤ v p0 0 ∧ v p0 0 ≤ 2000 := xf_12_0 hI q0
              refine gx_RX12_133 (y := v p0 0) hx hb hj hown hK hP q0 rfl dX12_stales_47 ?_
              refine jc_i (va_runV (As := [.ref z_15.toNat, .int (iI (v p0 0))]) (rest := []) ⟨hx, hb, hml, hown, hts⟩ (sX12_isStale l dC dI _ L cid K N tW sK sV v p0 z_15 (v p0 0) hI q0 h_19 (by omega)) (cwV 2 hts (jgoodV m_1129 m_1130 m_1131 m_873 m_1132) rfl rfl rfl (by decide +kernel) ⟨(Nat.le_of_ble_eq_true rfl), (Nat.le_of_ble_eq_true rfl)⟩) ⟨xP_blind, xrecv hK hP q0 rfl rfl, fun U hU hW => ⟨rfl, xP_of hU hW hP hK hDw hX hS hAw hAA⟩⟩ rfl rfl hl.1 rfl (lv_room (Nat.le_of_ble_eq_true rfl)) dX12_stales_50 ⟨(Nat.le_of_ble_eq_true rfl), (Nat.le_of_ble_eq_true rfl)⟩) hP hS hA (fun r_23 H locs w_24 hP hS => ?_)
              obtain ⟨z_25, rfl, h_26⟩ := w_24
              refine xr_if_eq (tgt := 59) hx hb dX12_stales_53 (by decide) (by omega) (fun h_27 => ?_) (fun h_27 => ?_)
              · exact J59 a2_14 H locs ls (by omega) hP hS hl
              · refine lv_iinc (v := iI (a2_14 + 1)) (lv' := [(2, .int (iI (a2_14 + 1))), (4, rv z_15), (3, .int (iI a3_14)), (0, .ref p0.toNat), (1, .int (iI p1))]) hx hb dX12_stales_56 hl (k := 2) rfl (iI_add _ _) (by decide) rfl (fun ls hl => ?_)
                obtain ⟨z_28, h_29, h_30, e9⟩ := xr_keep (a2_14 + 1)
                rw [e9] at hl
                exact J59 z_28 H locs ls (by omega) hP hS (lv_sub hl [1, 2, 0, 3, 4] rfl)
    exact L14 ((((v p0 13) - 0 : Int)).toNat + 1) 0 0 H locs ls (by omega) (by omega) (by omega) hP hS hl
  · refine lv_iconst (v := iI (-1)) hx hb dX12_stales_8 rfl ?_
    rw [← hQ]
    exact W.iret (v := iI (-1)) hx hb hr (fun t ht hW => ⟨⟨iI (-1), (), rfl, ⟨(-1), rfl, by omega⟩, trivial⟩, hS.F ht⟩) hS.2.2 dX12_stales_9
