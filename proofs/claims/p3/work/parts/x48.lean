set_option maxHeartbeats 2000000 in
set_option maxRecDepth 100000 in
theorem sX12_end (l : Launch) (dC : Nat → ClassId) (dI : Nat → Nat → Nat) (sz : Nat) (L : List Nat) (cid : Nat → ClassId) (K : Int → Nat) (N : Int → Int) (tW : Nat) (sK sV : Nat → Nat) (v : Int → Int → Int) (p0 : Int) (p1 : Int) (hI : xI L K N v) (q0 : ok L K p0 12) (q1 : rg p1) : Met l yX12_end (jk yX12_end cX12_end 2 (some .boolean)) ({ frames := 0, cells := 0, slots := 0, locals := 0 }) (va_Pc [.ref p0.toNat, .int (iI p1)] (xP (dC, dI) (xG L cid K N v) (xT cid) tW sK sV sz)) (va_Qi (fun (r : Int32) (u : (Int → Int → Int)) => ∃ z : Int, r = iI z ∧ (xI L K N u) ∧ (fr K [(7, 1)] u v) ∧ (0 ≤ z ∧ z ≤ 1) ∧ ((z = 0 ∧ u (u p0 2) 1 = v (v p0 2) 1 ∧ (p1 < 0 ∨ v (v p0 2) 1 < p1)) ∨ (z = 1 ∧ u (u p0 2) 1 = p1 ∧ 0 ≤ p1 ∧ p1 ≤ v (v p0 2) 1)) ∧ (z = 0 → u = v) ∧ (z = 1 → u = vu v (v p0 2) 1 p1)) (fun u t => va_P (dC, dI) vwCl (xG L cid K N u) t.heap ∧ va_K (dC, dI) vwCl (xT cid) t ∧ va_D (va_A (xG L cid K N v) sz) (xG L cid K N u)) (va_A (xG L cid K N v) sz)) 0 0 (va_A (xG L cid K N v) sz) := by
  refine Met.ofW (cc := cX12_end) (maxL := 2) (ret := (some .boolean)) (by decide) rfl ?_
  intro p e s m args below meth c s₁ B hml hv
  obtain ⟨rfl, ⟨hsz, hP, hK, hD0⟩, hX⟩ := hv
  have hx := B.exec
  have hb := B.bytes
  have hr := B.returns
  have hts := atoms_spec (ws := (jk yX12_end cX12_end 2 (some .boolean))) B.pre
  have hj : ∀ w ∈ jw, w.before ([.ref p0.toNat, .int (iI p1)] : List Value).toArray s = true := fun w h => hts w (jm h)
  have hown : s.vm.findClass RX12 = some m.cls := findClass_of_methodNamed B.named
  subst hsz
  have hD := hD0.self (sz := s.heap.size)
  generalize hAe : (va_A (xG L cid K N v) s.heap.size) = A at hD hX ⊢
  have hA : ∀ q : Nat, s.heap.size ≤ q → A q := fun q h => by rw [← hAe]; exact Or.inr h
  have hS : va_S A s.heap s.heap [] := va_S.rf
  have hXa := hX
  have hP : va_P (dC, dI) vwCl (xG L cid K N v) s.heap := hP
  have hl := lv_entry ([.ref p0.toNat, .int (iI p1)]) (n := 2) (Nat.le_of_ble_eq_true rfl)
  rw [lg_entry_eq]
  generalize (lg_sl ([.ref p0.toNat, .int (iI p1)]) ++ List.replicate (2 - (lg_sl ([.ref p0.toNat, .int (iI p1)])).length) Slot.unset).toArray = ls at hl ⊢
  have hl : lv_has ls 2 [(0, .ref p0.toNat), (1, .int (iI p1))] := hl
  generalize hQ : MQ below (va_Qi (fun (r : Int32) (u : (Int → Int → Int)) => ∃ z : Int, r = iI z ∧ (xI L K N u) ∧ (fr K [(7, 1)] u v) ∧ (0 ≤ z ∧ z ≤ 1) ∧ ((z = 0 ∧ u (u p0 2) 1 = v (v p0 2) 1 ∧ (p1 < 0 ∨ v (v p0 2) 1 < p1)) ∨ (z = 1 ∧ u (u p0 2) 1 = p1 ∧ 0 ≤ p1 ∧ p1 ≤ v (v p0 2) 1)) ∧ (z = 0 → u = v) ∧ (z = 1 → u = vu v (v p0 2) 1 p1)) (fun u t => va_P (dC, dI) vwCl (xG L cid K N u) t.heap ∧ va_K (dC, dI) vwCl (xT cid) t ∧ va_D A (xG L cid K N u)) A) ([.ref p0.toNat, .int (iI p1)] : List Value).toArray s 0 0 A = Q
  suffices ST : ∀ (H : Heap) (locs : List Loc), va_P (dC, dI) vwCl (xG L cid K N v) H → va_S A s.heap H locs → W p l e ({ frames := 0, cells := 0, slots := 0, locals := 0 }) s m ([.ref p0.toNat, .int (iI p1)] : List Value).toArray below meth c H locs 0 0 Q (F0 m 0 ls []) from ST _ _ hP hS
  clear hP hS
  intro H locs hP hS
  refine lv_iload_n hx hb dX12_end_0 rfl (lv_at hl 1 rfl) ?_
  refine xr_if_lt (tgt := 15) hx hb dX12_end_1 (by decide) (by omega) (fun h_1 => ?_) (fun h_1 => ?_)
  · refine lv_iconst (v := iI 0) hx hb dX12_end_15 rfl ?_
    have h_2 : ok L K (v p0 2) 7 := xf_12_2 hI q0
    have h_3 : 0 ≤ v (v p0 2) 1 ∧ v (v p0 2) 1 ≤ 600 := xf_7_1 hI h_2
    rw [← hQ]
    exact W.zret (v := iI 0) (ty := .boolean) hx hb hr (nb_bool (by omega) (by omega)) (fun t ht hW => ⟨⟨iI 0, v, rfl, ⟨0, rfl, hI, fr_rf, by omega, by omega, fun hz9 => by first | (exfalso; omega) | (rfl), fun hz9 => by first | (exfalso; omega) | (rfl)⟩, by rw [ht]; exact hP, va_K.moved hW.alike hK, hD⟩, hS.F ht⟩) hS.2.2 dX12_end_16
  · refine lv_iload_n hx hb dX12_end_4 rfl (lv_at hl 1 rfl) ?_
    refine lv_aload_n hx hb dX12_end_5 rfl (lv_at hl 0 rfl) ?_
    have h_4 : ok L K (v p0 2) 7 := xf_12_2 hI q0
    refine gx_RX12_10 (y := v p0 2) hx hb hj hown hK hP q0 ((xf_12_2 hI q0).1) rfl dX12_end_6 ?_
    have h_5 : 0 ≤ v (v p0 2) 1 ∧ v (v p0 2) 1 ≤ 600 := xf_7_1 hI h_4
    refine gx_RX12_103 (y := v (v p0 2) 1) hx hb hj hown hK hP h_4 rfl dX12_end_9 ?_
    refine xr_icmp_le (tgt := 17) hx hb dX12_end_12 (by decide) (by omega) (by omega) (fun h_6 => ?_) (fun h_6 => ?_)
    · refine lv_aload_n hx hb dX12_end_17 rfl (lv_at hl 0 rfl) ?_
      refine gx_RX12_10 (y := v p0 2) hx hb hj hown hK hP q0 ((xf_12_2 hI q0).1) rfl dX12_end_18 ?_
      refine lv_iload_n hx hb dX12_end_21 rfl (lv_at hl 1 rfl) ?_
      refine px_RX12_103 (y := p1) hx hb hj hown hK hP hD hS hI h_4 ⟨by omega, by omega⟩ dX12_end_22 (fun v_7 H locs f_8 e_9 o_10 I_11 hP hD hS => ?_)
      refine lv_iconst (v := iI 1) hx hb dX12_end_25 rfl ?_
      have b_12 : v_7 p0 2 = v p0 2 := (fr_use q0 f_8 rfl)
      have b_13 : v_7 (v p0 2) 1 = p1 := e_9
      have b_14 : v_7 (v_7 p0 2) 1 = p1 := by rw [b_12, b_13]
      rw [← hQ]
      exact W.zret (v := iI 1) (ty := .boolean) hx hb hr (nb_bool (by omega) (by omega)) (fun t ht hW => ⟨⟨iI 1, v_7, rfl, ⟨1, rfl, I_11, (fr_tr f_8 rfl fr_rf), by omega, by omega, fun hz9 => by first | (exfalso; omega) | (rw [vu_of e_9 o_10]; first | done | (congr <;> omega)), fun hz9 => by first | (exfalso; omega) | (rw [vu_of e_9 o_10]; first | done | (congr <;> omega))⟩, by rw [ht]; exact hP, va_K.moved hW.alike hK, hD⟩, hS.F ht⟩) hS.2.2 dX12_end_26
    · refine lv_iconst (v := iI 0) hx hb dX12_end_15 rfl ?_
      rw [← hQ]
      exact W.zret (v := iI 0) (ty := .boolean) hx hb hr (nb_bool (by omega) (by omega)) (fun t ht hW => ⟨⟨iI 0, v, rfl, ⟨0, rfl, hI, fr_rf, by omega, by omega, fun hz9 => by first | (exfalso; omega) | (rfl), fun hz9 => by first | (exfalso; omega) | (rfl)⟩, by rw [ht]; exact hP, va_K.moved hW.alike hK, hD⟩, hS.F ht⟩) hS.2.2 dX12_end_16
set_option maxHeartbeats 2000000 in
set_option maxRecDepth 100000 in
theorem sX12_fault (l : Launch) (dC : Nat → ClassId) (dI : Nat → Nat → Nat) (sz : Nat) (L : List Nat) (cid : Nat → ClassId) (K : Int → Nat) (N : Int → Int) (tW : Nat) (sK sV : Nat → Nat) (v : Int → Int → Int) (p0 : Int) (hI : xI L K N v) (q0 : ok L K p0 12) : Met l yX12_fault (jk yX12_fault cX12_fault 1 (some .int)) ({ frames := 35, cells := 0, slots := 0, locals := 791 }) (va_Pc [.ref p0.toNat] (xP (dC, dI) (xG L cid K N v) (xT cid) tW sK sV sz)) (va_Qi (fun (r : Int32) (u : (Int → Int → Int)) => ∃ z : Int, r = iI z ∧ (xI L K N u) ∧ (fr K [(7, 6), (7, 7), (7, 8), (7, 10), (7, 14), (21, (-1)), (22, (-1)), (23, (-1)), (24, (-1)), (25, (-1)), (26, (-1)), (27, (-1)), (28, (-1))] u v) ∧ (rg z) ∧ (Runs (xTT v (v p0 2)) (v (v p0 2) 1) (cf0 (xTT v (v p0 2)) (v (v p0 2) 1)) z)) (fun u t => va_P (dC, dI) vwCl (xG L cid K N u) t.heap ∧ va_K (dC, dI) vwCl (xT cid) t ∧ va_D (va_A (xG L cid K N v) sz) (xG L cid K N u)) (va_A (xG L cid K N v) sz)) 0 0 (va_A (xG L cid K N v) sz) := by
  refine Met.ofW (cc := cX12_fault) (maxL := 1) (ret := (some .int)) (by decide) rfl ?_
  intro p e s m args below meth c s₁ B hml hv
  obtain ⟨rfl, ⟨hsz, hP, hK, hD0⟩, hX⟩ := hv
  have hx := B.exec
  have hb := B.bytes
  have hr := B.returns
  have hts := atoms_spec (ws := (jk yX12_fault cX12_fault 1 (some .int))) B.pre
  have hj : ∀ w ∈ jw, w.before ([.ref p0.toNat] : List Value).toArray s = true := fun w h => hts w (jm h)
  have hown : s.vm.findClass RX12 = some m.cls := findClass_of_methodNamed B.named
  subst hsz
  have hD := hD0.self (sz := s.heap.size)
  generalize hAe : (va_A (xG L cid K N v) s.heap.size) = A at hD hX ⊢
  have hA : ∀ q : Nat, s.heap.size ≤ q → A q := fun q h => by rw [← hAe]; exact Or.inr h
  have hS : va_S A s.heap s.heap [] := va_S.rf
  have hXa := hX
  have hP : va_P (dC, dI) vwCl (xG L cid K N v) s.heap := hP
  have hl := lv_entry ([.ref p0.toNat]) (n := 1) (Nat.le_of_ble_eq_true rfl)
  rw [lg_entry_eq]
  generalize (lg_sl ([.ref p0.toNat]) ++ List.replicate (1 - (lg_sl ([.ref p0.toNat])).length) Slot.unset).toArray = ls at hl ⊢
  have hl : lv_has ls 1 [(0, .ref p0.toNat)] := hl
  generalize hQ : MQ below (va_Qi (fun (r : Int32) (u : (Int → Int → Int)) => ∃ z : Int, r = iI z ∧ (xI L K N u) ∧ (fr K [(7, 6), (7, 7), (7, 8), (7, 10), (7, 14), (21, (-1)), (22, (-1)), (23, (-1)), (24, (-1)), (25, (-1)), (26, (-1)), (27, (-1)), (28, (-1))] u v) ∧ (rg z) ∧ (Runs (xTT v (v p0 2)) (v (v p0 2) 1) (cf0 (xTT v (v p0 2)) (v (v p0 2) 1)) z)) (fun u t => va_P (dC, dI) vwCl (xG L cid K N u) t.heap ∧ va_K (dC, dI) vwCl (xT cid) t ∧ va_D A (xG L cid K N u)) A) ([.ref p0.toNat] : List Value).toArray s 0 0 A = Q
  suffices ST : ∀ (H : Heap) (locs : List Loc), va_P (dC, dI) vwCl (xG L cid K N v) H → va_S A s.heap H locs → W p l e ({ frames := 35, cells := 0, slots := 0, locals := 791 }) s m ([.ref p0.toNat] : List Value).toArray below meth c H locs 0 0 Q (F0 m 0 ls []) from ST _ _ hP hS
  clear hP hS
  intro H locs hP hS
  refine lv_aload_n hx hb dX12_fault_0 rfl (lv_at hl 0 rfl) ?_
  have h_1 : ok L K (v p0 2) 7 := xf_12_2 hI q0
  refine gx_RX12_10 (y := v p0 2) hx hb hj hown hK hP q0 ((xf_12_2 hI q0).1) rfl dX12_fault_1 ?_
  refine jcg_i (va_runV (As := []) (rest := []) ⟨hx, hb, hml, hown, hts⟩ (sX7_parse l dC dI _ L cid K N tW sK sV v (v p0 2) hI h_1) (cwV 0 hts (jgoodV m_981 m_982 m_983 m_677 m_984) rfl rfl rfl (by decide +kernel) ⟨(Nat.le_of_ble_eq_true rfl), (Nat.le_of_ble_eq_true rfl)⟩) ⟨xP_blind, xrecv hK hP h_1 rfl rfl, fun U hU hW => ⟨rfl, xP_of hU hW hP hK hD hX hS (fun _ h => h) hA⟩⟩ rfl rfl hl.1 rfl (lv_room (Nat.le_of_ble_eq_true rfl)) dX12_fault_4 ⟨(Nat.le_of_ble_eq_true rfl), (Nat.le_of_ble_eq_true rfl)⟩) hD hS hA (fun r_2 v_7 H locs w_3 hP hK hD hS => ?_)
  obtain ⟨z_4, rfl, I_9, f_8, h_5, h_6⟩ := w_3
  have hP : va_P (dC, dI) vwCl (xG L cid K N v_7) H := hP
  have hD : va_D A (xG L cid K N v_7) := hD
  rw [← hQ]
  exact W.iret (v := iI z_4) hx hb hr (fun t ht hW => ⟨⟨iI z_4, v_7, rfl, ⟨z_4, rfl, I_9, (fr_tr f_8 rfl fr_rf), by omega, by assumption⟩, by rw [ht]; exact hP, va_K.moved hW.alike hK, hD⟩, hS.F ht⟩) hS.2.2 dX12_fault_7
set_option maxHeartbeats 2000000 in
set_option maxRecDepth 100000 in
theorem sX12_isSet (l : Launch) (dC : Nat → ClassId) (dI : Nat → Nat → Nat) (sz : Nat) (L : List Nat) (cid : Nat → ClassId) (K : Int → Nat) (N : Int → Int) (tW : Nat) (sK sV : Nat → Nat) (v : Int → Int → Int) (p0 : Int) (p1 : Int) (hI : xI L K N v) (q0 : ok L K p0 12) (q1 : rg p1) : Met l yX12_isSet (jk yX12_isSet cX12_isSet 2 (some .boolean)) ({ frames := 0, cells := 0, slots := 0, locals := 0 }) (va_Pc [.ref p0.toNat, .int (iI p1)] (xP (dC, dI) (xG L cid K N v) (xT cid) tW sK sV sz)) (va_Qi (fun (r : Int32) (_ : Unit) => ∃ z : Int, r = iI z ∧ (0 ≤ z ∧ z ≤ 1)) (fun _ _ => True) (va_A [] sz)) 0 0 (va_A [] sz) := by
  refine Met.ofW (cc := cX12_isSet) (maxL := 2) (ret := (some .boolean)) (by decide) rfl ?_
  intro p e s m args below meth c s₁ B hml hv
  obtain ⟨rfl, ⟨hsz, hP, hK, hD0⟩, hX⟩ := hv
  have hx := B.exec
  have hb := B.bytes
  have hr := B.returns
  have hts := atoms_spec (ws := (jk yX12_isSet cX12_isSet 2 (some .boolean))) B.pre
  have hj : ∀ w ∈ jw, w.before ([.ref p0.toNat, .int (iI p1)] : List Value).toArray s = true := fun w h => hts w (jm h)
  have hown : s.vm.findClass RX12 = some m.cls := findClass_of_methodNamed B.named
  subst hsz
  have hDw := hD0.self (sz := s.heap.size)
  have hAA : ∀ q : Nat, s.heap.size ≤ q → va_A (xG L cid K N v) s.heap.size q := fun q h => Or.inr h
  have hAw : ∀ q, va_A [] s.heap.size q → va_A (xG L cid K N v) s.heap.size q := ja_nil va_S.rf hAA
  generalize hAe : (va_A [] s.heap.size) = A at hAw ⊢
  have hA : ∀ q : Nat, s.heap.size ≤ q → A q := fun q h => by rw [← hAe]; exact Or.inr h
  have hS : va_S A s.heap s.heap [] := va_S.rf
  have hXa := hX.nar hAw
  have hP : va_P (dC, dI) vwCl (xG L cid K N v) s.heap := hP
  have hl := lv_entry ([.ref p0.toNat, .int (iI p1)]) (n := 2) (Nat.le_of_ble_eq_true rfl)
  rw [lg_entry_eq]
  generalize (lg_sl ([.ref p0.toNat, .int (iI p1)]) ++ List.replicate (2 - (lg_sl ([.ref p0.toNat, .int (iI p1)])).length) Slot.unset).toArray = ls at hl ⊢
  have hl : lv_has ls 2 [(0, .ref p0.toNat), (1, .int (iI p1))] := hl
  generalize hQ : MQ below (va_Qi (fun (r : Int32) (_ : Unit) => ∃ z : Int, r = iI z ∧ (0 ≤ z ∧ z ≤ 1)) (fun _ _ => True) A) ([.ref p0.toNat, .int (iI p1)] : List Value).toArray s 0 0 A = Q
  suffices ST : ∀ (H : Heap) (locs : List Loc), va_P (dC, dI) vwCl (xG L cid K N v) H → va_S A s.heap H locs → W p l e ({ frames := 0, cells := 0, slots := 0, locals := 0 }) s m ([.ref p0.toNat, .int (iI p1)] : List Value).toArray below meth c H locs 0 0 Q (F0 m 0 ls []) from ST _ _ hP hS
  clear hP hS
  intro H locs hP hS
  refine lv_iload_n hx hb dX12_isSet_0 rfl (lv_at hl 1 rfl) ?_
  refine xr_if_lt (tgt := 19) hx hb dX12_isSet_1 (by decide) (by omega) (fun h_1 => ?_) (fun h_1 => ?_)
  · refine lv_iconst (v := iI 0) hx hb dX12_isSet_19 rfl ?_
    rw [← hQ]
    exact W.zret (v := iI 0) (ty := .boolean) hx hb hr (nb_bool (by omega) (by omega)) (fun t ht hW => ⟨⟨iI 0, (), rfl, ⟨0, rfl, by omega⟩, trivial⟩, hS.F ht⟩) hS.2.2 dX12_isSet_20
  · refine lv_aload_n hx hb dX12_isSet_4 rfl (lv_at hl 0 rfl) ?_
    have h_2 : (-2147483648) ≤ v p0 1 ∧ v p0 1 ≤ 2147483647 := xf_12_1 hI q0
    refine gx_RX12_158 (y := v p0 1) hx hb hj hown hK hP q0 rfl dX12_isSet_5 ?_
    refine lv_iload_n hx hb dX12_isSet_8 rfl (lv_at hl 1 rfl) ?_
    refine lv_ishr hx hb dX12_isSet_9 ?_
    refine xr_any (fun z_3 h_4 => ?_)
    refine lv_iconst (v := iI 1) hx hb dX12_isSet_10 rfl ?_
    refine xr_andR hx hb (by omega) (by omega) dX12_isSet_11 (fun z_5 h_6 => ?_)
    refine xr_if_eq (tgt := 19) hx hb dX12_isSet_12 (by decide) (by omega) (fun h_7 => ?_) (fun h_7 => ?_)
    · refine lv_iconst (v := iI 0) hx hb dX12_isSet_19 rfl ?_
      rw [← hQ]
      exact W.zret (v := iI 0) (ty := .boolean) hx hb hr (nb_bool (by omega) (by omega)) (fun t ht hW => ⟨⟨iI 0, (), rfl, ⟨0, rfl, by omega⟩, trivial⟩, hS.F ht⟩) hS.2.2 dX12_isSet_20
    · refine lv_iconst (v := iI 1) hx hb dX12_isSet_15 rfl ?_
      refine lv_goto (tgt := 20) hx hb dX12_isSet_16 (by decide) ?_
      rw [← hQ]
      exact W.zret (v := iI 1) (ty := .boolean) hx hb hr (nb_bool (by omega) (by omega)) (fun t ht hW => ⟨⟨iI 1, (), rfl, ⟨1, rfl, by omega⟩, trivial⟩, hS.F ht⟩) hS.2.2 dX12_isSet_20
set_option maxHeartbeats 2000000 in
set_option maxRecDepth 100000 in
theorem sX12_volumeAt (l : Launch) (dC : Nat → ClassId) (dI : Nat → Nat → Nat) (sz : Nat) (L : List Nat) (cid : Nat → ClassId) (K : Int → Nat) (N : Int → Int) (tW : Nat) (sK sV : Nat → Nat) (v : Int → Int → Int) (p0 : Int) (p1 : Int) (hI : xI L K N v) (q0 : ok L K p0 12) (q1 : rg p1) : Met l yX12_volumeAt (jk yX12_volumeAt cX12_volumeAt 2 (some (.object "BookOfAll$Volume"))) ({ frames := 1, cells := 0, slots := 0, locals := 21 }) (va_Pc [.ref p0.toNat, .int (iI p1)] (xP (dC, dI) (xG L cid K N v) (xT cid) tW sK sV sz)) (va_Qq (fun (r : Option Nat) (_ : Unit) => ∃ z : Int, r = opt z ∧ (z < 0 ∨ ok L K z 11)) (fun _ _ => True) (va_A [] sz)) 0 0 (va_A [] sz) := by
  refine Met.ofW (cc := cX12_volumeAt) (maxL := 2) (ret := (some (.object "BookOfAll$Volume"))) (by decide) rfl ?_
  intro p e s m args below meth c s₁ B hml hv
  obtain ⟨rfl, ⟨hsz, hP, hK, hD0⟩, hX⟩ := hv
  have hx := B.exec
  have hb := B.bytes
  have hr := B.returns
  have hts := atoms_spec (ws := (jk yX12_volumeAt cX12_volumeAt 2 (some (.object "BookOfAll$Volume")))) B.pre
  have hj : ∀ w ∈ jw, w.before ([.ref p0.toNat, .int (iI p1)] : List Value).toArray s = true := fun w h => hts w (jm h)
  have hown : s.vm.findClass RX12 = some m.cls := findClass_of_methodNamed B.named
  subst hsz
  have hDw := hD0.self (sz := s.heap.size)
  have hAA : ∀ q : Nat, s.heap.size ≤ q → va_A (xG L cid K N v) s.heap.size q := fun q h => Or.inr h
  have hAw : ∀ q, va_A [] s.heap.size q → va_A (xG L cid K N v) s.heap.size q := ja_nil va_S.rf hAA
  generalize hAe : (va_A [] s.heap.size) = A at hAw ⊢
  have hA : ∀ q : Nat, s.heap.size ≤ q → A q := fun q h => by rw [← hAe]; exact Or.inr h
  have hS : va_S A s.heap s.heap [] := va_S.rf
  have hXa := hX.nar hAw
  have hP : va_P (dC, dI) vwCl (xG L cid K N v) s.heap := hP
  have hl := lv_entry ([.ref p0.toNat, .int (iI p1)]) (n := 2) (Nat.le_of_ble_eq_true rfl)
  rw [lg_entry_eq]
  generalize (lg_sl ([.ref p0.toNat, .int (iI p1)]) ++ List.replicate (2 - (lg_sl ([.ref p0.toNat, .int (iI p1)])).length) Slot.unset).toArray = ls at hl ⊢
  have hl : lv_has ls 2 [(0, .ref p0.toNat), (1, .int (iI p1))] := hl
  generalize hQ : MQ below (va_Qq (fun (r : Option Nat) (_ : Unit) => ∃ z : Int, r = opt z ∧ (z < 0 ∨ ok L K z 11)) (fun _ _ => True) A) ([.ref p0.toNat, .int (iI p1)] : List Value).toArray s 0 0 A = Q
  suffices ST : ∀ (H : Heap) (locs : List Loc), va_P (dC, dI) vwCl (xG L cid K N v) H → va_S A s.heap H locs → W p l e ({ frames := 1, cells := 0, slots := 0, locals := 21 }) s m ([.ref p0.toNat, .int (iI p1)] : List Value).toArray below meth c H locs 0 0 Q (F0 m 0 ls []) from ST _ _ hP hS
  clear hP hS
  intro H locs hP hS
  refine lv_aload_n hx hb dX12_volumeAt_0 rfl (lv_at hl 0 rfl) ?_
  refine lv_iload_n hx hb dX12_volumeAt_1 rfl (lv_at hl 1 rfl) ?_
  refine jc_i (va_runV (As := [.int (iI p1)]) (rest := []) ⟨hx, hb, hml, hown, hts⟩ (sX12_isVolume l dC dI _ p0 p1 (by omega)) (cwV 1 hts (jgoodV m_985 m_986 m_987 m_873 m_988) rfl rfl rfl (by decide +kernel) ⟨(Nat.le_of_ble_eq_true rfl), (Nat.le_of_ble_eq_true rfl)⟩) ⟨jw_blind0, xrecv hK hP q0 rfl rfl, fun U hU hW => ⟨rfl, congrArg Array.size hU⟩⟩ rfl rfl hl.1 rfl (lv_room (Nat.le_of_ble_eq_true rfl)) dX12_volumeAt_2 ⟨(Nat.le_of_ble_eq_true rfl), (Nat.le_of_ble_eq_true rfl)⟩) hP hS hA (fun r_1 H locs w_2 hP hS => ?_)
  obtain ⟨z_3, rfl, h_4, h_5⟩ := w_2
  refine xr_if_eq (tgt := 17) hx hb dX12_volumeAt_5 (by decide) (by omega) (fun h_6 => ?_) (fun h_6 => ?_)
  · refine lv_null hx hb dX12_volumeAt_17 ?_
    refine jt_q (rv (-1)) rv_nul ?_
    rw [← hQ]
    exact W.aret (v := rv (-1)) hx hb hr (Or.inl ⟨_, rfl⟩) (rv_or (-1)) (fun t ht hW => ⟨⟨opt (-1), (), rfl, ⟨-1, rfl, (Or.inl (by decide))⟩, trivial⟩, hS.F ht⟩) hS.2.2 dX12_volumeAt_18
  · refine lv_aload_n hx hb dX12_volumeAt_8 rfl (lv_at hl 0 rfl) ?_
    have h_7 : ok L K (v p0 5) 35 := xf_12_5 hI q0
    have h_8 : N (v p0 5) = 6 := xn_35 hI h_7
    refine gx_RX12_34 (y := v p0 5) hx hb hj hown hK hP q0 ((xf_12_5 hI q0).1) rfl dX12_volumeAt_9 ?_
    refine lv_iload_n hx hb dX12_volumeAt_12 rfl (lv_at hl 1 rfl) ?_
    have h_9 : v (v p0 5) p1 < 0 ∨ ok L K (v (v p0 5) p1) 11 := xe_35 hI h_7 (by omega)
    refine ax_35 (y := v (v p0 5) p1) hx hb hK hP h_7 (by omega) (by omega) (by omega) rfl dX12_volumeAt_13 ?_
    refine lv_goto (tgt := 18) hx hb dX12_volumeAt_14 (by decide) ?_
    rw [← hQ]
    exact W.aret (v := rv (v (v p0 5) p1)) hx hb hr (Or.inl ⟨_, rfl⟩) (rv_or (v (v p0 5) p1)) (fun t ht hW => ⟨⟨opt (v (v p0 5) p1), (), rfl, ⟨v (v p0 5) p1, rfl, h_9⟩, trivial⟩, hS.F ht⟩) hS.2.2 dX12_volumeAt_18
set_option maxHeartbeats 2000000 in
set_option maxRecDepth 100000 in
theorem sX12_lastLetter (l : Launch) (dC : Nat → ClassId) (dI : Nat → Nat → Nat) (sz : Nat) (L : List Nat) (cid : Nat → ClassId) (K : Int → Nat) (N : Int → Int) (tW : Nat) (sK sV : Nat → Nat) (v : Int → Int → Int) (p0 : Int) (p1 : Int) (hI : xI L K N v) (q0 : ok L K p0 12) (q1 : rg p1) : Met l yX12_lastLetter (jk yX12_lastLetter cX12_lastLetter 3 (some .int)) ({ frames := 2, cells := 0, slots := 0, locals := 42 }) (va_Pc [.ref p0.toNat, .int (iI p1)] (xP (dC, dI) (xG L cid K N v) (xT cid) tW sK sV sz)) (va_Qi (fun (r : Int32) (_ : Unit) => ∃ z : Int, r = iI z ∧ (rg z)) (fun _ _ => True) (va_A [] sz)) 0 0 (va_A [] sz) := by
  refine Met.ofW (cc := cX12_lastLetter) (maxL := 3) (ret := (some .int)) (by decide) rfl ?_
  intro p e s m args below meth c s₁ B hml hv
  obtain ⟨rfl, ⟨hsz, hP, hK, hD0⟩, hX⟩ := hv
  have hx := B.exec
  have hb := B.bytes
  have hr := B.returns
  have hts := atoms_spec (ws := (jk yX12_lastLetter cX12_lastLetter 3 (some .int))) B.pre
  have hj : ∀ w ∈ jw, w.before ([.ref p0.toNat, .int (iI p1)] : List Value).toArray s = true := fun w h => hts w (jm h)
  have hown : s.vm.findClass RX12 = some m.cls := findClass_of_methodNamed B.named
  subst hsz
  have hDw := hD0.self (sz := s.heap.size)
  have hAA : ∀ q : Nat, s.heap.size ≤ q → va_A (xG L cid K N v) s.heap.size q := fun q h => Or.inr h
  have hAw : ∀ q, va_A [] s.heap.size q → va_A (xG L cid K N v) s.heap.size q := ja_nil va_S.rf hAA
  generalize hAe : (va_A [] s.heap.size) = A at hAw ⊢
  have hA : ∀ q : Nat, s.heap.size ≤ q → A q := fun q h => by rw [← hAe]; exact Or.inr h
  have hS : va_S A s.heap s.heap [] := va_S.rf
  have hXa := hX.nar hAw
  have hP : va_P (dC, dI) vwCl (xG L cid K N v) s.heap := hP
  have hl := lv_entry ([.ref p0.toNat, .int (iI p1)]) (n := 3) (Nat.le_of_ble_eq_true rfl)
  rw [lg_entry_eq]
  generalize (lg_sl ([.ref p0.toNat, .int (iI p1)]) ++ List.replicate (3 - (lg_sl ([.ref p0.toNat, .int (iI p1)])).length) Slot.unset).toArray = ls at hl ⊢
  have hl : lv_has ls 3 [(0, .ref p0.toNat), (1, .int (iI p1))] := hl
  generalize hQ : MQ below (va_Qi (fun (r : Int32) (_ : Unit) => ∃ z : Int, r = iI z ∧ (rg z)) (fun _ _ => True) A) ([.ref p0.toNat, .int (iI p1)] : List Value).toArray s 0 0 A = Q
  suffices ST : ∀ (H : Heap) (locs : List Loc), va_P (dC, dI) vwCl (xG L cid K N v) H → va_S A s.heap H locs → W p l e ({ frames := 2, cells := 0, slots := 0, locals := 42 }) s m ([.ref p0.toNat, .int (iI p1)] : List Value).toArray below meth c H locs 0 0 Q (F0 m 0 ls []) from ST _ _ hP hS
  clear hP hS
  intro H locs hP hS
  refine lv_aload_n hx hb dX12_lastLetter_0 rfl (lv_at hl 0 rfl) ?_
  refine lv_iload_n hx hb dX12_lastLetter_1 rfl (lv_at hl 1 rfl) ?_
  refine jc_q (va_runV (As := [.int (iI p1)]) (rest := []) ⟨hx, hb, hml, hown, hts⟩ (sX12_volumeAt l dC dI _ L cid K N tW sK sV v p0 p1 hI q0 (by omega)) (cwV 1 hts (jgoodV m_989 m_990 m_991 m_873 m_992) rfl rfl rfl (by decide +kernel) ⟨(Nat.le_of_ble_eq_true rfl), (Nat.le_of_ble_eq_true rfl)⟩) ⟨xP_blind, xrecv hK hP q0 rfl rfl, fun U hU hW => ⟨rfl, xP_of hU hW hP hK hDw hX hS hAw hAA⟩⟩ rfl rfl hl.1 rfl (lv_room (Nat.le_of_ble_eq_true rfl)) dX12_lastLetter_2 ⟨(Nat.le_of_ble_eq_true rfl), (Nat.le_of_ble_eq_true rfl)⟩) hP hS hA (fun r_1 H locs w_2 hP hS => ?_)
  obtain ⟨z_3, rfl, h_4⟩ := w_2
  refine jt_q (rv z_3) rfl ?_
  refine xq_astore_n (i := 2) (lv' := [(2, rv z_3), (0, .ref p0.toNat), (1, .int (iI p1))]) hx hb dX12_lastLetter_5 rfl hl (by decide) rfl (fun ls hl => ?_)
  refine xq_aload_n hx hb dX12_lastLetter_6 rfl (lv_at hl 0 rfl) ?_
  refine xq_ifnonnull (tgt := 14) hx hb dX12_lastLetter_7 (by decide) (fun h_5 => ?_) (fun h_5 => ?_)
  · have h_6 : ok L K z_3 11 := h_4.resolve_left (by omega)
    refine xq_aload_n hx hb dX12_lastLetter_14 rfl (lv_at hl 0 rfl) ?_
    refine jt_q (.ref z_3.toNat) (rv_ref (h_6).1) ?_
    have h_7 : (-2147483648) ≤ v z_3 0 ∧ v z_3 0 ≤ 2147483647 := xf_11_0 hI h_6
    refine gx_RX12_164 (y := v z_3 0) hx hb hj hown hK hP h_6 rfl dX12_lastLetter_15 ?_
    rw [← hQ]
    exact W.iret (v := iI (v z_3 0)) hx hb hr (fun t ht hW => ⟨⟨iI (v z_3 0), (), rfl, ⟨v z_3 0, rfl, by omega⟩, trivial⟩, hS.F ht⟩) hS.2.2 dX12_lastLetter_18
  · refine lv_iconst (v := iI 0) hx hb dX12_lastLetter_10 rfl ?_
    refine lv_goto (tgt := 18) hx hb dX12_lastLetter_11 (by decide) ?_
    rw [← hQ]
    exact W.iret (v := iI 0) hx hb hr (fun t ht hW => ⟨⟨iI 0, (), rfl, ⟨0, rfl, by omega⟩, trivial⟩, hS.F ht⟩) hS.2.2 dX12_lastLetter_18
set_option maxHeartbeats 2000000 in
set_option maxRecDepth 100000 in
theorem sX12_volumeByKey (l : Launch) (dC : Nat → ClassId) (dI : Nat → Nat → Nat) (sz : Nat) (L : List Nat) (cid : Nat → ClassId) (K : Int → Nat) (N : Int → Int) (tW : Nat) (sK sV : Nat → Nat) (v : Int → Int → Int) (p0 : Int) (p1 : Int) (hI : xI L K N v) (q0 : ok L K p0 12) (q1 : ok L K p1 0) : Met l yX12_volumeByKey (jk yX12_volumeByKey cX12_volumeByKey 5 (some .int)) ({ frames := 3, cells := 0, slots := 0, locals := 73 }) (va_Pc [.ref p0.toNat, .ref p1.toNat] (xP (dC, dI) (xG L cid K N v) (xT cid) tW sK sV sz)) (va_Qi (fun (r : Int32) (u : (Int → Int → Int)) => ∃ z : Int, r = iI z ∧ (xI L K N u) ∧ (fr K [(0, 5)] u v) ∧ (rg z)) (fun u t => va_P (dC, dI) vwCl (xG L cid K N u) t.heap ∧ va_K (dC, dI) vwCl (xT cid) t ∧ va_D (va_A (xG L cid K N v) sz) (xG L cid K N u)) (va_A (xG L cid K N v) sz)) 0 0 (va_A (xG L cid K N v) sz) := by
  refine Met.ofW (cc := cX12_volumeByKey) (maxL := 5) (ret := (some .int)) (by decide) rfl ?_
  intro p e s m args below meth c s₁ B hml hv
  obtain ⟨rfl, ⟨hsz, hP, hK, hD0⟩, hX⟩ := hv
  have hx := B.exec
  have hb := B.bytes
  have hr := B.returns
  have hts := atoms_spec (ws := (jk yX12_volumeByKey cX12_volumeByKey 5 (some .int))) B.pre
  have hj : ∀ w ∈ jw, w.before ([.ref p0.toNat, .ref p1.toNat] : List Value).toArray s = true := fun w h => hts w (jm h)
  have hown : s.vm.findClass RX12 = some m.cls := findClass_of_methodNamed B.named
  subst hsz
  have hD := hD0.self (sz := s.heap.size)
  generalize hAe : (va_A (xG L cid K N v) s.heap.size) = A at hD hX ⊢
  have hA : ∀ q : Nat, s.heap.size ≤ q → A q := fun q h => by rw [← hAe]; exact Or.inr h
  have hS : va_S A s.heap s.heap [] := va_S.rf
  have hXa := hX
  have hP : va_P (dC, dI) vwCl (xG L cid K N v) s.heap := hP
  have hl := lv_entry ([.ref p0.toNat, .ref p1.toNat]) (n := 5) (Nat.le_of_ble_eq_true rfl)
  rw [lg_entry_eq]
  generalize (lg_sl ([.ref p0.toNat, .ref p1.toNat]) ++ List.replicate (5 - (lg_sl ([.ref p0.toNat, .ref p1.toNat])).length) Slot.unset).toArray = ls at hl ⊢
  have hl : lv_has ls 5 [(0, .ref p0.toNat), (1, .ref p1.toNat)] := hl
  generalize hQ : MQ below (va_Qi (fun (r : Int32) (u : (Int → Int → Int)) => ∃ z : Int, r = iI z ∧ (xI L K N u) ∧ (fr K [(0, 5)] u v) ∧ (rg z)) (fun u t => va_P (dC, dI) vwCl (xG L cid K N u) t.heap ∧ va_K (dC, dI) vwCl (xT cid) t ∧ va_D A (xG L cid K N u)) A) ([.ref p0.toNat, .ref p1.toNat] : List Value).toArray s 0 0 A = Q
  suffices ST : ∀ (H : Heap) (locs : List Loc), va_P (dC, dI) vwCl (xG L cid K N v) H → va_S A s.heap H locs → W p l e ({ frames := 3, cells := 0, slots := 0, locals := 73 }) s m ([.ref p0.toNat, .ref p1.toNat] : List Value).toArray below meth c H locs 0 0 Q (F0 m 0 ls []) from ST _ _ hP hS
  clear hP hS
  intro H locs hP hS
  refine lv_aload_n hx hb dX12_volumeByKey_0 rfl (lv_at hl 0 rfl) ?_
  have h_1 : ok L K (v p0 4) 6 := xf_12_4 hI q0
  refine gx_RX12_28 (y := v p0 4) hx hb hj hown hK hP q0 ((xf_12_4 hI q0).1) rfl dX12_volumeByKey_1 ?_
  refine lv_aload_n hx hb dX12_volumeByKey_4 rfl (lv_at hl 1 rfl) ?_
  refine jcg_v (va_runV (As := [.ref p1.toNat]) (rest := []) ⟨hx, hb, hml, hown, hts⟩ (sX6_prepare l dC dI _ L cid K N tW sK sV v (v p0 4) p1 hI h_1 q1) (cwV 1 hts (jgoodV m_993 m_994 m_995 m_860 m_996) rfl rfl rfl (by decide +kernel) ⟨(Nat.le_of_ble_eq_true rfl), (Nat.le_of_ble_eq_true rfl)⟩) ⟨xP_blind, xrecv hK hP h_1 rfl rfl, fun U hU hW => ⟨rfl, xP_of hU hW hP hK hD hX hS (fun _ h => h) hA⟩⟩ rfl rfl hl.1 rfl (lv_room (Nat.le_of_ble_eq_true rfl)) dX12_volumeByKey_5 ⟨(Nat.le_of_ble_eq_true rfl), (Nat.le_of_ble_eq_true rfl)⟩) hD hS hA (fun v_5 H locs w_3 hP hK hD hS => ?_)
  obtain ⟨I_7, f_6⟩ := w_3
  have hP : va_P (dC, dI) vwCl (xG L cid K N v_5) H := hP
  have hD : va_D A (xG L cid K N v_5) := hD
  refine lv_aload_n hx hb dX12_volumeByKey_8 rfl (lv_at hl 1 rfl) ?_
  refine lv_aload_n hx hb dX12_volumeByKey_9 rfl (lv_at hl 1 rfl) ?_
  have h_8 : (-2147483648) ≤ v_5 p1 5 ∧ v_5 p1 5 ≤ 2147483647 := xf_0_5 I_7 q1
  refine gx_RX12_227 (y := v_5 p1 5) hx hb hj hown hK hP q1 rfl dX12_volumeByKey_10 ?_
  refine jc_i (va_runV (As := [.int (iI (v_5 p1 5))]) (rest := []) ⟨hx, hb, hml, hown, hts⟩ (sX0_byteAt l dC dI _ L cid K N tW sK sV v_5 p1 (v_5 p1 5) I_7 q1 (by omega)) (cwV 1 hts (jgoodV m_997 m_854 m_855 m_666 m_856) rfl rfl rfl (by decide +kernel) ⟨(Nat.le_of_ble_eq_true rfl), (Nat.le_of_ble_eq_true rfl)⟩) ⟨xP_blind, xrecv hK hP q1 rfl rfl, fun U hU hW => ⟨rfl, xP_of hU hW hP hK hD hX hS (fun _ h => h) hA⟩⟩ rfl rfl hl.1 rfl (lv_room (Nat.le_of_ble_eq_true rfl)) dX12_volumeByKey_13 ⟨(Nat.le_of_ble_eq_true rfl), (Nat.le_of_ble_eq_true rfl)⟩) hP hS hA (fun r_9 H locs w_10 hP hS => ?_)
  obtain ⟨z_11, rfl, h_12⟩ := w_10
  refine lv_istore_n (i := 2) (lv' := [(2, .int (iI z_11)), (0, .ref p0.toNat), (1, .ref p1.toNat)]) hx hb dX12_volumeByKey_16 rfl hl (by decide) rfl (fun ls hl => ?_)
  refine lv_iconst (v := iI 5) hx hb dX12_volumeByKey_17 rfl ?_
  refine lv_istore_n (i := 3) (lv' := [(3, .int (iI 5)), (2, .int (iI z_11)), (0, .ref p0.toNat), (1, .ref p1.toNat)]) hx hb dX12_volumeByKey_18 rfl hl (by decide) rfl (fun ls hl => ?_)
  refine lv_iload_n hx hb dX12_volumeByKey_19 rfl (lv_at hl 1 rfl) ?_
  refine jc_i (va_runS (As := [.int (iI z_11)]) (rest := []) ⟨hx, hb, hml, hown, hts⟩ (sX0_isDigit l dC dI _ z_11 (by omega)) (va_cwS 1 hts (jgoodS m_998 m_665 m_666 m_667) rfl rfl rfl (by decide +kernel) ⟨(Nat.le_of_ble_eq_true rfl), (Nat.le_of_ble_eq_true rfl)⟩) ⟨jw_blind0, fun U hU hW => ⟨rfl, congrArg Array.size hU⟩⟩ rfl rfl hl.1 rfl (lv_room (Nat.le_of_ble_eq_true rfl)) dX12_volumeByKey_20 ⟨(Nat.le_of_ble_eq_true rfl), (Nat.le_of_ble_eq_true rfl)⟩) hP hS hA (fun r_13 H locs w_14 hP hS => ?_)
  obtain ⟨z_15, rfl, h_16, h_17⟩ := w_14
  refine xr_if_eq (tgt := 42) hx hb dX12_volumeByKey_23 (by decide) (by omega) (fun h_18 => ?_) (fun h_18 => ?_)
  · refine lv_iconst (v := iI 0) hx hb dX12_volumeByKey_42 rfl ?_
    refine lv_istore (i := 4) (lv' := [(4, .int (iI 0)), (3, .int (iI 5)), (2, .int (iI z_11)), (0, .ref p0.toNat), (1, .ref p1.toNat)]) hx hb dX12_volumeByKey_43 hl (by decide) rfl (fun ls hl => ?_)
    have L45 : ∀ (n45 : Nat) (a4_45 : Int) (H : Heap) (locs : List Loc) (ls : Array Slot), (0 ≤ a4_45 ∧ a4_45 ≤ 2147483647) → (0 < (n45 : Int) ∧ 5 - a4_45 < (n45 : Int)) → va_P (dC, dI) vwCl (xG L cid K N v_5) H → va_D A (xG L cid K N v_5) → va_S A s.heap H locs → lv_has ls 5 [(4, .int (iI a4_45)), (3, .int (iI 5)), (2, .int (iI z_11)), (0, .ref p0.toNat), (1, .ref p1.toNat)] → W p l e ({ frames := 3, cells := 0, slots := 0, locals := 73 }) s m ([.ref p0.toNat, .ref p1.toNat] : List Value).toArray below meth c H locs 0 0 Q (F0 m 45 ls []) := by
      intro n45
      induction n45 with
      | zero =>
        intro a4_45 H locs ls h_19 hm45 hP hD hS hl
        exfalso; omega
      | succ n45 ih45 =>
        intro a4_45 H locs ls h_20 hm45 hP hD hS hl
        refine lv_iload hx hb dX12_volumeByKey_45 (lv_at hl 0 rfl) ?_
        refine lv_iload_n hx hb dX12_volumeByKey_47 rfl (lv_at hl 1 rfl) ?_
        refine xr_icmp_ge (tgt := 73) hx hb dX12_volumeByKey_48 (by decide) (by omega) (by omega) (fun h_21 => ?_) (fun h_21 => ?_)
        · refine lv_iload_n hx hb dX12_volumeByKey_73 rfl (lv_at hl 1 rfl) ?_
          rw [← hQ]
          exact W.iret (v := iI 5) hx hb hr (fun t ht hW => ⟨⟨iI 5, v_5, rfl, ⟨5, rfl, I_7, (fr_tr f_6 rfl fr_rf), by omega⟩, by rw [ht]; exact hP, va_K.moved hW.alike hK, hD⟩, hS.F ht⟩) hS.2.2 dX12_volumeByKey_74
        · refine lv_iload_n hx hb dX12_volumeByKey_51 rfl (lv_at hl 2 rfl) ?_
          refine lv_bipush (v := iI 97) hx hb dX12_volumeByKey_52 rfl ?_
          refine xr_sub hx hb dX12_volumeByKey_54 ?_
          refine xr_kept (fun z_22 h_23 h_24 => ?_)
          refine lv_aload_n hx hb dX12_volumeByKey_55 rfl (lv_at hl 3 rfl) ?_
          refine lv_iload hx hb dX12_volumeByKey_56 (lv_at hl 0 rfl) ?_
          refine jc_i (va_runV (As := [.int (iI a4_45)]) (rest := [.int (iI z_22)]) ⟨hx, hb, hml, hown, hts⟩ (sX12_lastLetter l dC dI _ L cid K N tW sK sV v_5 p0 a4_45 I_7 q0 (by omega)) (cwV 1 hts (jgoodV m_999 m_1000 m_1001 m_873 m_1002) rfl rfl rfl (by decide +kernel) ⟨(Nat.le_of_ble_eq_true rfl), (Nat.le_of_ble_eq_true rfl)⟩) ⟨xP_blind, xrecv hK hP q0 rfl rfl, fun U hU hW => ⟨rfl, xP_of hU hW hP hK hD hX hS (fun _ h => h) hA⟩⟩ rfl rfl hl.1 rfl (lv_room (Nat.le_of_ble_eq_true rfl)) dX12_volumeByKey_58 ⟨(Nat.le_of_ble_eq_true rfl), (Nat.le_of_ble_eq_true rfl)⟩) hP hS hA (fun r_25 H locs w_26 hP hS => ?_)
          obtain ⟨z_27, rfl, h_28⟩ := w_26
          refine xr_icmp_gt (tgt := 67) hx hb dX12_volumeByKey_61 (by decide) (by omega) (by omega) (fun h_29 => ?_) (fun h_29 => ?_)
          · refine lv_iinc (v := iI (a4_45 + 1)) (lv' := [(4, .int (iI (a4_45 + 1))), (3, .int (iI 5)), (2, .int (iI z_11)), (0, .ref p0.toNat), (1, .ref p1.toNat)]) hx hb dX12_volumeByKey_67 hl (k := 0) rfl (iI_add _ _) (by decide) rfl (fun ls hl => ?_)
            refine lv_goto (tgt := 45) hx hb dX12_volumeByKey_70 (by decide) ?_
            exact ih45 (a4_45 + 1) H locs ls (by omega) (by omega) hP hD hS hl
          · refine lv_iload hx hb dX12_volumeByKey_64 (lv_at hl 0 rfl) ?_
            rw [← hQ]
            exact W.iret (v := iI a4_45) hx hb hr (fun t ht hW => ⟨⟨iI a4_45, v_5, rfl, ⟨a4_45, rfl, I_7, (fr_tr f_6 rfl fr_rf), by omega⟩, by rw [ht]; exact hP, va_K.moved hW.alike hK, hD⟩, hS.F ht⟩) hS.2.2 dX12_volumeByKey_66
    exact L45 (((5 - 0 : Int)).toNat + 1) 0 H locs ls (by omega) (by omega) hP hD hS hl
  · refine lv_aload_n hx hb dX12_volumeByKey_26 rfl (lv_at hl 2 rfl) ?_
    refine gx_RX12_28 (y := v p0 4) hx hb hj hown hK hP q0 ((xf_12_4 I_7 q0).1) (fr_use q0 f_6 rfl) dX12_volumeByKey_27 ?_
    have h_30 : 0 ≤ v (v p0 4) 5 ∧ v (v p0 4) 5 ≤ 1 := xf_6_5 hI h_1
    refine gx_RX12_236 (y := v (v p0 4) 5) hx hb hj hown hK hP h_1 (fr_use h_1 f_6 rfl) dX12_volumeByKey_30 ?_
    refine xr_if_eq (tgt := 40) hx hb dX12_volumeByKey_33 (by decide) (by omega) (fun h_31 => ?_) (fun h_31 => ?_)
    · refine lv_iload_n hx hb dX12_volumeByKey_40 rfl (lv_at hl 0 rfl) ?_
      rw [← hQ]
      exact W.iret (v := iI 5) hx hb hr (fun t ht hW => ⟨⟨iI 5, v_5, rfl, ⟨5, rfl, I_7, (fr_tr f_6 rfl fr_rf), by omega⟩, by rw [ht]; exact hP, va_K.moved hW.alike hK, hD⟩, hS.F ht⟩) hS.2.2 dX12_volumeByKey_41
    · refine lv_iconst (v := iI 0) hx hb dX12_volumeByKey_36 rfl ?_
      refine lv_goto (tgt := 41) hx hb dX12_volumeByKey_37 (by decide) ?_
      rw [← hQ]
      exact W.iret (v := iI 0) hx hb hr (fun t ht hW => ⟨⟨iI 0, v_5, rfl, ⟨0, rfl, I_7, (fr_tr f_6 rfl fr_rf), by omega⟩, by rw [ht]; exact hP, va_K.moved hW.alike hK, hD⟩, hS.F ht⟩) hS.2.2 dX12_volumeByKey_41
set_option maxHeartbeats 2000000 in
set_option maxRecDepth 100000 in
theorem sX12_sortIntoVolumes (l : Launch) (dC : Nat → ClassId) (dI : Nat → Nat → Nat) (sz : Nat) (L : List Nat) (cid : Nat → ClassId) (K : Int → Nat) (N : Int → Int) (tW : Nat) (sK sV : Nat → Nat) (v : Int → Int → Int) (p0 : Int) (hI : xI L K N v) (q0 : ok L K p0 12) : Met l yX12_sortIntoVolumes (jk yX12_sortIntoVolumes cX12_sortIntoVolumes 3 none) ({ frames := 5, cells := 0, slots := 0, locals := 137 }) (va_Pc [.ref p0.toNat] (xP (dC, dI) (xG L cid K N v) (xT cid) tW sK sV sz)) (va_Qv (fun (u : (Int → Int → Int)) => (xI L K N u) ∧ (fr K [(0, 5), (0, 6), (6, 1), (6, 2), (6, 3), (6, 4), (6, 5), (34, (-1))] u v)) (fun u t => va_P (dC, dI) vwCl (xG L cid K N u) t.heap ∧ va_K (dC, dI) vwCl (xT cid) t ∧ va_D (va_A (xG L cid K N v) sz) (xG L cid K N u)) (va_A (xG L cid K N v) sz)) 0 0 (va_A (xG L cid K N v) sz) := by
  refine Met.ofW (cc := cX12_sortIntoVolumes) (maxL := 3) (ret := none) (by decide) rfl ?_
  intro p e s m args below meth c s₁ B hml hv
  obtain ⟨rfl, ⟨hsz, hP, hK, hD0⟩, hX⟩ := hv
  have hx := B.exec
  have hb := B.bytes
  have hr := B.returns
  have hts := atoms_spec (ws := (jk yX12_sortIntoVolumes cX12_sortIntoVolumes 3 none)) B.pre
  have hj : ∀ w ∈ jw, w.before ([.ref p0.toNat] : List Value).toArray s = true := fun w h => hts w (jm h)
  have hown : s.vm.findClass RX12 = some m.cls := findClass_of_methodNamed B.named
  subst hsz
  have hD := hD0.self (sz := s.heap.size)
  generalize hAe : (va_A (xG L cid K N v) s.heap.size) = A at hD hX ⊢
  have hA : ∀ q : Nat, s.heap.size ≤ q → A q := fun q h => by rw [← hAe]; exact Or.inr h
  have hS : va_S A s.heap s.heap [] := va_S.rf
  have hXa := hX
  have hP : va_P (dC, dI) vwCl (xG L cid K N v) s.heap := hP
  have hl := lv_entry ([.ref p0.toNat]) (n := 3) (Nat.le_of_ble_eq_true rfl)
  rw [lg_entry_eq]
  generalize (lg_sl ([.ref p0.toNat]) ++ List.replicate (3 - (lg_sl ([.ref p0.toNat])).length) Slot.unset).toArray = ls at hl ⊢
  have hl : lv_has ls 3 [(0, .ref p0.toNat)] := hl
  generalize hQ : MQ below (va_Qv (fun (u : (Int → Int → Int)) => (xI L K N u) ∧ (fr K [(0, 5), (0, 6), (6, 1), (6, 2), (6, 3), (6, 4), (6, 5), (34, (-1))] u v)) (fun u t => va_P (dC, dI) vwCl (xG L cid K N u) t.heap ∧ va_K (dC, dI) vwCl (xT cid) t ∧ va_D A (xG L cid K N u)) A) ([.ref p0.toNat] : List Value).toArray s 0 0 A = Q
  suffices ST : ∀ (H : Heap) (locs : List Loc), va_P (dC, dI) vwCl (xG L cid K N v) H → va_S A s.heap H locs → W p l e ({ frames := 5, cells := 0, slots := 0, locals := 137 }) s m ([.ref p0.toNat] : List Value).toArray below meth c H locs 0 0 Q (F0 m 0 ls []) from ST _ _ hP hS
  clear hP hS
  intro H locs hP hS
  refine lv_aload_n hx hb dX12_sortIntoVolumes_0 rfl (lv_at hl 0 rfl) ?_
  have h_1 : ok L K (v p0 4) 6 := xf_12_4 hI q0
  refine gx_RX12_28 (y := v p0 4) hx hb hj hown hK hP q0 ((xf_12_4 hI q0).1) rfl dX12_sortIntoVolumes_1 ?_
  refine lv_iconst (v := iI (-1)) hx hb dX12_sortIntoVolumes_4 rfl ?_
  refine lv_aload_n hx hb dX12_sortIntoVolumes_5 rfl (lv_at hl 0 rfl) ?_
  have h_2 : 0 ≤ v p0 0 ∧ v p0 0 ≤ 2000 := xf_12_0 hI q0
  refine gx_RX12_133 (y := v p0 0) hx hb hj hown hK hP q0 rfl dX12_sortIntoVolumes_6 ?_
  refine jcg_v (va_runV (As := [.int (iI (-1)), .int (iI (v p0 0))]) (rest := []) ⟨hx, hb, hml, hown, hts⟩ (sX6_take l dC dI _ L cid K N tW sK sV v (v p0 4) (-1) (v p0 0) hI h_1 (by omega) (by omega)) (cwV 2 hts (jgoodV m_1003 m_1004 m_1005 m_860 m_1006) rfl rfl rfl (by decide +kernel) ⟨(Nat.le_of_ble_eq_true rfl), (Nat.le_of_ble_eq_true rfl)⟩) ⟨xP_blind, xrecv hK hP h_1 rfl rfl, fun U hU hW => ⟨rfl, xP_of hU hW hP hK hD hX hS (fun _ h => h) hA⟩⟩ rfl rfl hl.1 rfl (lv_room (Nat.le_of_ble_eq_true rfl)) dX12_sortIntoVolumes_9 ⟨(Nat.le_of_ble_eq_true rfl), (Nat.le_of_ble_eq_true rfl)⟩) hD hS hA (fun v_6 H locs w_4 hP hK hD hS => ?_)
  obtain ⟨I_8, f_7⟩ := w_4
  have hP : va_P (dC, dI) vwCl (xG L cid K N v_6) H := hP
  have hD : va_D A (xG L cid K N v_6) := hD
  refine lv_iconst (v := iI 0) hx hb dX12_sortIntoVolumes_12 rfl ?_
  refine lv_istore_n (i := 1) (lv' := [(1, .int (iI 0)), (0, .ref p0.toNat)]) hx hb dX12_sortIntoVolumes_13 rfl hl (by decide) rfl (fun ls hl => ?_)
  have L14 : ∀ (n14 : Nat) (a1_14 : Int) (vc14 : Int → Int → Int) (H : Heap) (locs : List Loc) (ls : Array Slot), (0 ≤ a1_14 ∧ a1_14 ≤ 2147483647) → (0 < (n14 : Int) ∧ (v p0 7) - a1_14 < (n14 : Int)) → fr K [(0, 5), (0, 6)] vc14 v_6 → xI L K N vc14 → va_P (dC, dI) vwCl (xG L cid K N vc14) H → va_D A (xG L cid K N vc14) → va_S A s.heap H locs → lv_has ls 3 [(1, .int (iI a1_14)), (0, .ref p0.toNat)] → W p l e ({ frames := 5, cells := 0, slots := 0, locals := 137 }) s m ([.ref p0.toNat] : List Value).toArray below meth c H locs 0 0 Q (F0 m 14 ls []) := by
    intro n14
    induction n14 with
    | zero =>
      intro a1_14 vc14 H locs ls h_9 hm14 f_10 I_11 hP hD hS hl
      exfalso; omega
    | succ n14 ih14 =>
      intro a1_14 vc14 H locs ls h_12 hm14 f_13 I_14 hP hD hS hl
      refine lv_iload_n hx hb dX12_sortIntoVolumes_14 rfl (lv_at hl 0 rfl) ?_
      refine lv_aload_n hx hb dX12_sortIntoVolumes_15 rfl (lv_at hl 1 rfl) ?_
      have h_15 : 0 ≤ v p0 7 ∧ v p0 7 ≤ 60 := xf_12_7 hI q0
      refine gx_RX12_203 (y := v p0 7) hx hb hj hown hK hP q0 (((fr_use q0 f_13 rfl)).trans (fr_use q0 f_7 rfl)) dX12_sortIntoVolumes_16 ?_
      refine xr_icmp_ge (tgt := 47) hx hb dX12_sortIntoVolumes_19 (by decide) (by omega) (by omega) (fun h_16 => ?_) (fun h_16 => ?_)
      · rw [← hQ]
        exact W.vret hx hb hr (fun t ht hW => ⟨⟨vc14, rfl, ⟨I_14, (fr_tr f_13 rfl (fr_tr f_7 rfl fr_rf))⟩, by rw [ht]; exact hP, va_K.moved hW.alike hK, hD⟩, hS.F ht⟩) hS.2.2 dX12_sortIntoVolumes_47
      · refine lv_aload_n hx hb dX12_sortIntoVolumes_22 rfl (lv_at hl 1 rfl) ?_
        refine lv_iload_n hx hb dX12_sortIntoVolumes_23 rfl (lv_at hl 0 rfl) ?_
        refine jc_q (va_runV (As := [.int (iI a1_14)]) (rest := []) ⟨hx, hb, hml, hown, hts⟩ (sX12_entryAt l dC dI _ L cid K N tW sK sV vc14 p0 a1_14 I_14 q0 (by omega)) (cwV 1 hts (jgoodV m_870 m_871 m_872 m_873 m_874) rfl rfl rfl (by decide +kernel) ⟨(Nat.le_of_ble_eq_true rfl), (Nat.le_of_ble_eq_true rfl)⟩) ⟨xP_blind, xrecv hK hP q0 rfl rfl, fun U hU hW => ⟨rfl, xP_of hU hW hP hK hD hX hS (fun _ h => h) hA⟩⟩ rfl rfl hl.1 rfl (lv_room (Nat.le_of_ble_eq_true rfl)) dX12_sortIntoVolumes_24 ⟨(Nat.le_of_ble_eq_true rfl), (Nat.le_of_ble_eq_true rfl)⟩) hP hS hA (fun r_17 H locs w_18 hP hS => ?_)
        obtain ⟨z_19, rfl, h_20⟩ := w_18
        refine jt_q (rv z_19) rfl ?_
        refine xq_astore_n (i := 2) (lv' := [(2, rv z_19), (1, .int (iI a1_14)), (0, .ref p0.toNat)]) hx hb dX12_sortIntoVolumes_27 rfl hl (by decide) rfl (fun ls hl => ?_)
        refine xq_aload_n hx hb dX12_sortIntoVolumes_28 rfl (lv_at hl 0 rfl) ?_
        have J41 : ∀ (vc41 : Int → Int → Int) (H : Heap) (locs : List Loc) (ls : Array Slot), fr K [(0, 5), (0, 6)] vc41 vc14 → xI L K N vc41 → va_P (dC, dI) vwCl (xG L cid K N vc41) H → va_D A (xG L cid K N vc41) → va_S A s.heap H locs → lv_has ls 3 [(2, rv z_19), (1, .int (iI a1_14)), (0, .ref p0.toNat)] → W p l e ({ frames := 5, cells := 0, slots := 0, locals := 137 }) s m ([.ref p0.toNat] : List Value).toArray below meth c H locs 0 0 Q (F0 m 41 ls []) := by
          intro vc41 H locs ls f_21 I_22 hP hD hS hl
          refine lv_iinc (v := iI (a1_14 + 1)) (lv' := [(1, .int (iI (a1_14 + 1))), (2, rv z_19), (0, .ref p0.toNat)]) hx hb dX12_sortIntoVolumes_41 hl (k := 1) rfl (iI_add _ _) (by decide) rfl (fun ls hl => ?_)
          refine lv_goto (tgt := 14) hx hb dX12_sortIntoVolumes_44 (by decide) ?_
          exact ih14 (a1_14 + 1) vc41 H locs ls (by omega) (by omega) (fr_tr f_21 rfl (fr_tr f_13 rfl fr_rf)) I_22 hP hD hS (lv_sub hl [0, 2] rfl)
        refine xq_ifnull (tgt := 41) hx hb dX12_sortIntoVolumes_29 (by decide) (fun h_23 => ?_) (fun h_23 => ?_)
        · exact J41 vc14 H locs ls fr_rf I_14 hP hD hS hl
        · have h_24 : ok L K z_19 0 := h_20.resolve_left (by omega)
          refine xq_aload_n hx hb dX12_sortIntoVolumes_32 rfl (lv_at hl 0 rfl) ?_
          refine jt_q (.ref z_19.toNat) (rv_ref (h_24).1) ?_
          refine lv_aload_n hx hb dX12_sortIntoVolumes_33 rfl (lv_at hl 2 rfl) ?_
          refine xq_aload_n hx hb dX12_sortIntoVolumes_34 rfl (lv_at hl 0 rfl) ?_
          refine jt_q (.ref z_19.toNat) (rv_ref (h_24).1) ?_
          refine jcg_i (va_runV (As := [.ref z_19.toNat]) (rest := [.ref z_19.toNat]) ⟨hx, hb, hml, hown, hts⟩ (sX12_volumeByKey l dC dI _ L cid K N tW sK sV vc14 p0 z_19 I_14 q0 h_24) (cwV 1 hts (jgoodV m_1007 m_1008 m_1009 m_873 m_1010) rfl rfl rfl (by decide +kernel) ⟨(Nat.le_of_ble_eq_true rfl), (Nat.le_of_ble_eq_true rfl)⟩) ⟨xP_blind, xrecv hK hP q0 rfl rfl, fun U hU hW => ⟨rfl, xP_of hU hW hP hK hD hX hS (fun _ h => h) hA⟩⟩ rfl rfl hl.1 rfl (lv_room (Nat.le_of_ble_eq_true rfl)) dX12_sortIntoVolumes_35 ⟨(Nat.le_of_ble_eq_true rfl), (Nat.le_of_ble_eq_true rfl)⟩) hD hS hA (fun r_25 v_29 H locs w_26 hP hK hD hS => ?_)
          obtain ⟨z_27, rfl, I_31, f_30, h_28⟩ := w_26
          have hP : va_P (dC, dI) vwCl (xG L cid K N v_29) H := hP
          have hD : va_D A (xG L cid K N v_29) := hD
          refine px_RX12_220 (y := z_27) hx hb hj hown hK hP hD hS I_31 h_24 ⟨by omega, by omega⟩ dX12_sortIntoVolumes_38 (fun v_32 H locs f_33 e_34 o_35 I_36 hP hD hS => ?_)
          exact J41 v_32 H locs ls (fr_tr f_33 rfl (fr_tr f_30 rfl fr_rf)) I_36 hP hD hS hl
  exact L14 ((((v p0 7) - 0 : Int)).toNat + 1) 0 v_6 H locs ls (by omega) (by omega) fr_rf I_8 hP hD hS hl
