set_option maxHeartbeats 2000000 in
set_option maxRecDepth 100000 in
theorem sX9_has (l : Launch) (dC : Nat → ClassId) (dI : Nat → Nat → Nat) (sz : Nat) (L : List Nat) (cid : Nat → ClassId) (K : Int → Nat) (N : Int → Int) (tW : Nat) (sK sV : Nat → Nat) (v : Int → Int → Int) (p0 : Int) (p1 : Int) (hI : xI L K N v) (q0 : ok L K p0 9) (q1 : rg p1) : Met l yX9_has (jk yX9_has cX9_has 2 (some .boolean)) ({ frames := 0, cells := 0, slots := 0, locals := 0 }) (va_Pc [.ref p0.toNat, .int (iI p1)] (xP (dC, dI) (xG L cid K N v) (xT cid) tW sK sV sz)) (va_Qi (fun (r : Int32) (_ : Unit) => ∃ z : Int, r = iI z ∧ (0 ≤ z ∧ z ≤ 1) ∧ (z = 0 ∨ 0 ≤ p1)) (fun _ _ => True) (va_A [] sz)) 0 0 (va_A [] sz) := by
  refine Met.ofW (cc := cX9_has) (maxL := 2) (ret := (some .boolean)) (by decide) rfl ?_
  intro p e s m args below meth c s₁ B hml hv
  obtain ⟨rfl, ⟨hsz, hP, hK, hD0⟩, hX⟩ := hv
  have hx := B.exec
  have hb := B.bytes
  have hr := B.returns
  have hts := atoms_spec (ws := (jk yX9_has cX9_has 2 (some .boolean))) B.pre
  have hj : ∀ w ∈ jw, w.before ([.ref p0.toNat, .int (iI p1)] : List Value).toArray s = true := fun w h => hts w (jm h)
  have hown : s.vm.findClass RX9 = some m.cls := findClass_of_methodNamed B.named
  subst hsz
  have hDw := hD0.self (sz := s.heap.size)
  have hAA : ∀ q : Nat, s.heap.size ≤ q → va_A (xG L cid K N v) s.heap.size q := fun q h => Or.inr h
  have hAw : ∀ q, va_A [] s.heap.size q → va_A (xG L cid K N v) s.heap.size q := ja_nil va_S.rf hAA
  generalize hAe : (va_A [] s.heap.size) = A at hAw ⊢
  have hA : ∀ q : Nat, s.heap.size ≤ q → A q := fun q h => by rw [← hAe]; exact Or.inr h
  have hS : va_S A s.heap s.heap [] := va_S.rf
  have hXa := hX.nar hAw
  have hP : va_P (dC, dI) vwCl (xG L cid K N v) s.heap := hP
  have hl := lv_entry ([.ref p0.toNat, .int (iI p1)]) (n := 2) (Nat.le_of_ble_eq_true rfl)
  rw [lg_entry_eq]
  generalize (lg_sl ([.ref p0.toNat, .int (iI p1)]) ++ List.replicate (2 - (lg_sl ([.ref p0.toNat, .int (iI p1)])).length) Slot.unset).toArray = ls at hl ⊢
  have hl : lv_has ls 2 [(0, .ref p0.toNat), (1, .int (iI p1))] := hl
  generalize hQ : MQ below (va_Qi (fun (r : Int32) (_ : Unit) => ∃ z : Int, r = iI z ∧ (0 ≤ z ∧ z ≤ 1) ∧ (z = 0 ∨ 0 ≤ p1)) (fun _ _ => True) A) ([.ref p0.toNat, .int (iI p1)] : List Value).toArray s 0 0 A = Q
  suffices ST : ∀ (H : Heap) (locs : List Loc), va_P (dC, dI) vwCl (xG L cid K N v) H → va_S A s.heap H locs → W p l e ({ frames := 0, cells := 0, slots := 0, locals := 0 }) s m ([.ref p0.toNat, .int (iI p1)] : List Value).toArray below meth c H locs 0 0 Q (F0 m 0 ls []) from ST _ _ hP hS
  clear hP hS
  intro H locs hP hS
  refine lv_iload_n hx hb dX9_has_0 rfl (lv_at hl 1 rfl) ?_
  refine xr_if_lt (tgt := 27) hx hb dX9_has_1 (by decide) (by omega) (fun h_1 => ?_) (fun h_1 => ?_)
  · refine lv_iconst (v := iI 0) hx hb dX9_has_27 rfl ?_
    rw [← hQ]
    exact W.zret (v := iI 0) (ty := .boolean) hx hb hr (nb_bool (by omega) (by omega)) (fun t ht hW => ⟨⟨iI 0, (), rfl, ⟨0, rfl, by omega, by omega⟩, trivial⟩, hS.F ht⟩) hS.2.2 dX9_has_28
  · refine lv_iload_n hx hb dX9_has_4 rfl (lv_at hl 1 rfl) ?_
    refine lv_aload_n hx hb dX9_has_5 rfl (lv_at hl 0 rfl) ?_
    have h_2 : ok L K (v p0 1) 67 := xf_9_1 hI q0
    have h_3 : N (v p0 1) = 14 := xn_67 hI h_2
    refine gx_RX9_11 (y := v p0 1) hx hb hj hown hK hP q0 ((xf_9_1 hI q0).1) rfl dX9_has_6 ?_
    refine lx_67 (y := 14) hx hb hK hP h_2 (by omega) (by omega) dX9_has_9 ?_
    refine xr_icmp_ge (tgt := 27) hx hb dX9_has_10 (by decide) (by omega) (by omega) (fun h_4 => ?_) (fun h_4 => ?_)
    · refine lv_iconst (v := iI 0) hx hb dX9_has_27 rfl ?_
      rw [← hQ]
      exact W.zret (v := iI 0) (ty := .boolean) hx hb hr (nb_bool (by omega) (by omega)) (fun t ht hW => ⟨⟨iI 0, (), rfl, ⟨0, rfl, by omega, by omega⟩, trivial⟩, hS.F ht⟩) hS.2.2 dX9_has_28
    · refine lv_aload_n hx hb dX9_has_13 rfl (lv_at hl 0 rfl) ?_
      refine gx_RX9_11 (y := v p0 1) hx hb hj hown hK hP q0 ((xf_9_1 hI q0).1) rfl dX9_has_14 ?_
      refine lv_iload_n hx hb dX9_has_17 rfl (lv_at hl 1 rfl) ?_
      have h_5 : (-2147483648) ≤ v (v p0 1) p1 ∧ v (v p0 1) p1 ≤ 2147483647 := xe_67 hI h_2 (by omega)
      refine ax_67 (y := v (v p0 1) p1) hx hb hK hP h_2 (by omega) (by omega) (by omega) rfl dX9_has_18 ?_
      refine lv_iconst (v := iI (-1)) hx hb dX9_has_19 rfl ?_
      refine xr_icmp_eq (tgt := 27) hx hb dX9_has_20 (by decide) (by omega) (by omega) (fun h_6 => ?_) (fun h_6 => ?_)
      · refine lv_iconst (v := iI 0) hx hb dX9_has_27 rfl ?_
        rw [← hQ]
        exact W.zret (v := iI 0) (ty := .boolean) hx hb hr (nb_bool (by omega) (by omega)) (fun t ht hW => ⟨⟨iI 0, (), rfl, ⟨0, rfl, by omega, by omega⟩, trivial⟩, hS.F ht⟩) hS.2.2 dX9_has_28
      · refine lv_iconst (v := iI 1) hx hb dX9_has_23 rfl ?_
        refine lv_goto (tgt := 28) hx hb dX9_has_24 (by decide) ?_
        rw [← hQ]
        exact W.zret (v := iI 1) (ty := .boolean) hx hb hr (nb_bool (by omega) (by omega)) (fun t ht hW => ⟨⟨iI 1, (), rfl, ⟨1, rfl, by omega, by omega⟩, trivial⟩, hS.F ht⟩) hS.2.2 dX9_has_28
set_option maxHeartbeats 2000000 in
set_option maxRecDepth 100000 in
theorem sX12_go (l : Launch) (dC : Nat → ClassId) (dI : Nat → Nat → Nat) (sz : Nat) (L : List Nat) (cid : Nat → ClassId) (K : Int → Nat) (N : Int → Int) (tW : Nat) (sK sV : Nat → Nat) (v : Int → Int → Int) (p0 : Int) (p1 : Int) (hI : xI L K N v) (q0 : ok L K p0 12) (q1 : rg p1) : Met l yX12_go (jk yX12_go cX12_go 2 (some .int)) ({ frames := 1, cells := 0, slots := 0, locals := 40 }) (va_Pc [.ref p0.toNat, .int (iI p1)] (xP (dC, dI) (xG L cid K N v) (xT cid) tW sK sV sz)) (va_Qi (fun (r : Int32) (u : (Int → Int → Int)) => ∃ z : Int, r = iI z ∧ (xI L K N u) ∧ (fr K [(12, 0)] u v) ∧ (rg z) ∧ ((z = -1 ∧ (p1 < 0 ∨ 300 < p1) ∧ u p0 0 = v p0 0) ∨ (z = u p0 0 ∧ 0 ≤ p1 ∧ p1 ≤ 300 ∧ ((2000 < v p0 0 + p1 ∧ u p0 0 = 2000) ∨ (v p0 0 + p1 ≤ 2000 ∧ u p0 0 = v p0 0 + p1))))) (fun u t => va_P (dC, dI) vwCl (xG L cid K N u) t.heap ∧ va_K (dC, dI) vwCl (xT cid) t ∧ va_D (va_A (xG L cid K N v) sz) (xG L cid K N u)) (va_A (xG L cid K N v) sz)) 0 0 (va_A (xG L cid K N v) sz) := by
  refine Met.ofW (cc := cX12_go) (maxL := 2) (ret := (some .int)) (by decide) rfl ?_
  intro p e s m args below meth c s₁ B hml hv
  obtain ⟨rfl, ⟨hsz, hP, hK, hD0⟩, hX⟩ := hv
  have hx := B.exec
  have hb := B.bytes
  have hr := B.returns
  have hts := atoms_spec (ws := (jk yX12_go cX12_go 2 (some .int))) B.pre
  have hj : ∀ w ∈ jw, w.before ([.ref p0.toNat, .int (iI p1)] : List Value).toArray s = true := fun w h => hts w (jm h)
  have hown : s.vm.findClass RX12 = some m.cls := findClass_of_methodNamed B.named
  subst hsz
  have hD := hD0.self (sz := s.heap.size)
  generalize hAe : (va_A (xG L cid K N v) s.heap.size) = A at hD hX ⊢
  have hA : ∀ q : Nat, s.heap.size ≤ q → A q := fun q h => by rw [← hAe]; exact Or.inr h
  have hS : va_S A s.heap s.heap [] := va_S.rf
  have hXa := hX
  have hP : va_P (dC, dI) vwCl (xG L cid K N v) s.heap := hP
  have hl := lv_entry ([.ref p0.toNat, .int (iI p1)]) (n := 2) (Nat.le_of_ble_eq_true rfl)
  rw [lg_entry_eq]
  generalize (lg_sl ([.ref p0.toNat, .int (iI p1)]) ++ List.replicate (2 - (lg_sl ([.ref p0.toNat, .int (iI p1)])).length) Slot.unset).toArray = ls at hl ⊢
  have hl : lv_has ls 2 [(0, .ref p0.toNat), (1, .int (iI p1))] := hl
  generalize hQ : MQ below (va_Qi (fun (r : Int32) (u : (Int → Int → Int)) => ∃ z : Int, r = iI z ∧ (xI L K N u) ∧ (fr K [(12, 0)] u v) ∧ (rg z) ∧ ((z = -1 ∧ (p1 < 0 ∨ 300 < p1) ∧ u p0 0 = v p0 0) ∨ (z = u p0 0 ∧ 0 ≤ p1 ∧ p1 ≤ 300 ∧ ((2000 < v p0 0 + p1 ∧ u p0 0 = 2000) ∨ (v p0 0 + p1 ≤ 2000 ∧ u p0 0 = v p0 0 + p1))))) (fun u t => va_P (dC, dI) vwCl (xG L cid K N u) t.heap ∧ va_K (dC, dI) vwCl (xT cid) t ∧ va_D A (xG L cid K N u)) A) ([.ref p0.toNat, .int (iI p1)] : List Value).toArray s 0 0 A = Q
  suffices ST : ∀ (H : Heap) (locs : List Loc), va_P (dC, dI) vwCl (xG L cid K N v) H → va_S A s.heap H locs → W p l e ({ frames := 1, cells := 0, slots := 0, locals := 40 }) s m ([.ref p0.toNat, .int (iI p1)] : List Value).toArray below meth c H locs 0 0 Q (F0 m 0 ls []) from ST _ _ hP hS
  clear hP hS
  intro H locs hP hS
  refine lv_iload_n hx hb dX12_go_0 rfl (lv_at hl 1 rfl) ?_
  refine xr_if_lt (tgt := 11) hx hb dX12_go_1 (by decide) (by omega) (fun h_1 => ?_) (fun h_1 => ?_)
  · refine lv_iconst (v := iI (-1)) hx hb dX12_go_11 rfl ?_
    have h_2 : 0 ≤ v p0 0 ∧ v p0 0 ≤ 2000 := xf_12_0 hI q0
    rw [← hQ]
    exact W.iret (v := iI (-1)) hx hb hr (fun t ht hW => ⟨⟨iI (-1), v, rfl, ⟨(-1), rfl, hI, fr_rf, by omega, by omega⟩, by rw [ht]; exact hP, va_K.moved hW.alike hK, hD⟩, hS.F ht⟩) hS.2.2 dX12_go_12
  · refine lv_iload_n hx hb dX12_go_4 rfl (lv_at hl 1 rfl) ?_
    refine lv_sipush (v := iI 300) hx hb dX12_go_5 rfl ?_
    refine xr_icmp_le (tgt := 13) hx hb dX12_go_8 (by decide) (by omega) (by omega) (fun h_3 => ?_) (fun h_3 => ?_)
    · refine lv_aload_n hx hb dX12_go_13 rfl (lv_at hl 0 rfl) ?_
      refine lv_sipush (v := iI 2000) hx hb dX12_go_14 rfl ?_
      refine lv_aload_n hx hb dX12_go_17 rfl (lv_at hl 0 rfl) ?_
      have h_4 : 0 ≤ v p0 0 ∧ v p0 0 ≤ 2000 := xf_12_0 hI q0
      refine gx_RX12_133 (y := v p0 0) hx hb hj hown hK hP q0 rfl dX12_go_18 ?_
      refine lv_iload_n hx hb dX12_go_21 rfl (lv_at hl 1 rfl) ?_
      refine xr_add hx hb dX12_go_22 ?_
      refine va_mmin hx hb (by rw [hml]; exact hl.1.symm) hown (hj _ m_897) (hj _ m_765) (hj _ m_762) (hj _ m_766) (Nat.le_of_ble_eq_true rfl) (Nat.le_of_ble_eq_true rfl) (Nat.le_of_ble_eq_true rfl) (Nat.le_of_ble_eq_true rfl) dX12_go_23 ?_
      refine xm_min (by omega) (by omega) (fun z_5 h_6 => ?_)
      refine px_RX12_133 (y := z_5) hx hb hj hown hK hP hD hS hI q0 ⟨by omega, by omega⟩ dX12_go_26 (fun v_7 H locs f_8 e_9 o_10 I_11 hP hD hS => ?_)
      refine lv_aload_n hx hb dX12_go_29 rfl (lv_at hl 0 rfl) ?_
      refine gx_RX12_133 (y := z_5) hx hb hj hown hK hP q0 e_9 dX12_go_30 ?_
      have b_12 : v_7 p0 0 = z_5 := e_9
      rw [← hQ]
      exact W.iret (v := iI z_5) hx hb hr (fun t ht hW => ⟨⟨iI z_5, v_7, rfl, ⟨z_5, rfl, I_11, (fr_tr f_8 rfl fr_rf), by omega, by omega⟩, by rw [ht]; exact hP, va_K.moved hW.alike hK, hD⟩, hS.F ht⟩) hS.2.2 dX12_go_33
    · refine lv_iconst (v := iI (-1)) hx hb dX12_go_11 rfl ?_
      have h_13 : 0 ≤ v p0 0 ∧ v p0 0 ≤ 2000 := xf_12_0 hI q0
      rw [← hQ]
      exact W.iret (v := iI (-1)) hx hb hr (fun t ht hW => ⟨⟨iI (-1), v, rfl, ⟨(-1), rfl, hI, fr_rf, by omega, by omega⟩, by rw [ht]; exact hP, va_K.moved hW.alike hK, hD⟩, hS.F ht⟩) hS.2.2 dX12_go_12
set_option maxHeartbeats 2000000 in
set_option maxRecDepth 100000 in
theorem sX12_isVolume (l : Launch) (dC : Nat → ClassId) (dI : Nat → Nat → Nat) (sz : Nat) (p0 : Int) (p1 : Int) (q1 : rg p1) : Met l yX12_isVolume (jk yX12_isVolume cX12_isVolume 2 (some .boolean)) ({ frames := 0, cells := 0, slots := 0, locals := 0 }) (va_Pc [.ref p0.toNat, .int (iI p1)] (fun U => U.heap.size = sz)) (va_Qi (fun (r : Int32) (_ : Unit) => ∃ z : Int, r = iI z ∧ (0 ≤ z ∧ z ≤ 1) ∧ ((z = 1 ∧ 0 ≤ p1 ∧ p1 ≤ 5) ∨ (z = 0 ∧ (p1 < 0 ∨ 5 < p1)))) (fun _ _ => True) (va_A [] sz)) 0 0 (va_A [] sz) := by
  refine Met.ofW (cc := cX12_isVolume) (maxL := 2) (ret := (some .boolean)) (by decide) rfl ?_
  intro p e s m args below meth c s₁ B hml hv
  obtain ⟨rfl, hsz⟩ := hv
  have hx := B.exec
  have hb := B.bytes
  have hr := B.returns
  have hts := atoms_spec (ws := (jk yX12_isVolume cX12_isVolume 2 (some .boolean))) B.pre
  have hj : ∀ w ∈ jw, w.before ([.ref p0.toNat, .int (iI p1)] : List Value).toArray s = true := fun w h => hts w (jm h)
  have hown : s.vm.findClass RX12 = some m.cls := findClass_of_methodNamed B.named
  subst hsz
  have hP : va_P (dC, dI) vwCl [] s.heap := fun k q h => by simp at h
  generalize hAe : (va_A [] s.heap.size) = A
  have hA : ∀ q : Nat, s.heap.size ≤ q → A q := fun q h => by rw [← hAe]; exact Or.inr h
  have hS : va_S A s.heap s.heap [] := va_S.rf
  have hl := lv_entry ([.ref p0.toNat, .int (iI p1)]) (n := 2) (Nat.le_of_ble_eq_true rfl)
  rw [lg_entry_eq]
  generalize (lg_sl ([.ref p0.toNat, .int (iI p1)]) ++ List.replicate (2 - (lg_sl ([.ref p0.toNat, .int (iI p1)])).length) Slot.unset).toArray = ls at hl ⊢
  have hl : lv_has ls 2 [(0, .ref p0.toNat), (1, .int (iI p1))] := hl
  generalize hQ : MQ below (va_Qi (fun (r : Int32) (_ : Unit) => ∃ z : Int, r = iI z ∧ (0 ≤ z ∧ z ≤ 1) ∧ ((z = 1 ∧ 0 ≤ p1 ∧ p1 ≤ 5) ∨ (z = 0 ∧ (p1 < 0 ∨ 5 < p1)))) (fun _ _ => True) A) ([.ref p0.toNat, .int (iI p1)] : List Value).toArray s 0 0 A = Q
  suffices ST : ∀ (H : Heap) (locs : List Loc), va_P (dC, dI) vwCl [] H → va_S A s.heap H locs → W p l e ({ frames := 0, cells := 0, slots := 0, locals := 0 }) s m ([.ref p0.toNat, .int (iI p1)] : List Value).toArray below meth c H locs 0 0 Q (F0 m 0 ls []) from ST _ _ hP hS
  clear hP hS
  intro H locs hP hS
  refine lv_iload_n hx hb dX12_isVolume_0 rfl (lv_at hl 1 rfl) ?_
  refine xr_if_lt (tgt := 14) hx hb dX12_isVolume_1 (by decide) (by omega) (fun h_1 => ?_) (fun h_1 => ?_)
  · refine lv_iconst (v := iI 0) hx hb dX12_isVolume_14 rfl ?_
    rw [← hQ]
    exact W.zret (v := iI 0) (ty := .boolean) hx hb hr (nb_bool (by omega) (by omega)) (fun t ht hW => ⟨⟨iI 0, (), rfl, ⟨0, rfl, by omega, by omega⟩, trivial⟩, hS.F ht⟩) hS.2.2 dX12_isVolume_15
  · refine lv_iload_n hx hb dX12_isVolume_4 rfl (lv_at hl 1 rfl) ?_
    refine lv_bipush (v := iI 6) hx hb dX12_isVolume_5 rfl ?_
    refine xr_icmp_ge (tgt := 14) hx hb dX12_isVolume_7 (by decide) (by omega) (by omega) (fun h_2 => ?_) (fun h_2 => ?_)
    · refine lv_iconst (v := iI 0) hx hb dX12_isVolume_14 rfl ?_
      rw [← hQ]
      exact W.zret (v := iI 0) (ty := .boolean) hx hb hr (nb_bool (by omega) (by omega)) (fun t ht hW => ⟨⟨iI 0, (), rfl, ⟨0, rfl, by omega, by omega⟩, trivial⟩, hS.F ht⟩) hS.2.2 dX12_isVolume_15
    · refine lv_iconst (v := iI 1) hx hb dX12_isVolume_10 rfl ?_
      refine lv_goto (tgt := 15) hx hb dX12_isVolume_11 (by decide) ?_
      rw [← hQ]
      exact W.zret (v := iI 1) (ty := .boolean) hx hb hr (nb_bool (by omega) (by omega)) (fun t ht hW => ⟨⟨iI 1, (), rfl, ⟨1, rfl, by omega, by omega⟩, trivial⟩, hS.F ht⟩) hS.2.2 dX12_isVolume_15
set_option maxHeartbeats 2000000 in
set_option maxRecDepth 100000 in
theorem sX12_isSubscriber (l : Launch) (dC : Nat → ClassId) (dI : Nat → Nat → Nat) (sz : Nat) (p0 : Int) (p1 : Int) (q1 : rg p1) : Met l yX12_isSubscriber (jk yX12_isSubscriber cX12_isSubscriber 2 (some .boolean)) ({ frames := 0, cells := 0, slots := 0, locals := 0 }) (va_Pc [.ref p0.toNat, .int (iI p1)] (fun U => U.heap.size = sz)) (va_Qi (fun (r : Int32) (_ : Unit) => ∃ z : Int, r = iI z ∧ (0 ≤ z ∧ z ≤ 1) ∧ ((z = 1 ∧ 0 ≤ p1 ∧ p1 ≤ 9) ∨ (z = 0 ∧ (p1 < 0 ∨ 9 < p1)))) (fun _ _ => True) (va_A [] sz)) 0 0 (va_A [] sz) := by
  refine Met.ofW (cc := cX12_isSubscriber) (maxL := 2) (ret := (some .boolean)) (by decide) rfl ?_
  intro p e s m args below meth c s₁ B hml hv
  obtain ⟨rfl, hsz⟩ := hv
  have hx := B.exec
  have hb := B.bytes
  have hr := B.returns
  have hts := atoms_spec (ws := (jk yX12_isSubscriber cX12_isSubscriber 2 (some .boolean))) B.pre
  have hj : ∀ w ∈ jw, w.before ([.ref p0.toNat, .int (iI p1)] : List Value).toArray s = true := fun w h => hts w (jm h)
  have hown : s.vm.findClass RX12 = some m.cls := findClass_of_methodNamed B.named
  subst hsz
  have hP : va_P (dC, dI) vwCl [] s.heap := fun k q h => by simp at h
  generalize hAe : (va_A [] s.heap.size) = A
  have hA : ∀ q : Nat, s.heap.size ≤ q → A q := fun q h => by rw [← hAe]; exact Or.inr h
  have hS : va_S A s.heap s.heap [] := va_S.rf
  have hl := lv_entry ([.ref p0.toNat, .int (iI p1)]) (n := 2) (Nat.le_of_ble_eq_true rfl)
  rw [lg_entry_eq]
  generalize (lg_sl ([.ref p0.toNat, .int (iI p1)]) ++ List.replicate (2 - (lg_sl ([.ref p0.toNat, .int (iI p1)])).length) Slot.unset).toArray = ls at hl ⊢
  have hl : lv_has ls 2 [(0, .ref p0.toNat), (1, .int (iI p1))] := hl
  generalize hQ : MQ below (va_Qi (fun (r : Int32) (_ : Unit) => ∃ z : Int, r = iI z ∧ (0 ≤ z ∧ z ≤ 1) ∧ ((z = 1 ∧ 0 ≤ p1 ∧ p1 ≤ 9) ∨ (z = 0 ∧ (p1 < 0 ∨ 9 < p1)))) (fun _ _ => True) A) ([.ref p0.toNat, .int (iI p1)] : List Value).toArray s 0 0 A = Q
  suffices ST : ∀ (H : Heap) (locs : List Loc), va_P (dC, dI) vwCl [] H → va_S A s.heap H locs → W p l e ({ frames := 0, cells := 0, slots := 0, locals := 0 }) s m ([.ref p0.toNat, .int (iI p1)] : List Value).toArray below meth c H locs 0 0 Q (F0 m 0 ls []) from ST _ _ hP hS
  clear hP hS
  intro H locs hP hS
  refine lv_iload_n hx hb dX12_isSubscriber_0 rfl (lv_at hl 1 rfl) ?_
  refine xr_if_lt (tgt := 14) hx hb dX12_isSubscriber_1 (by decide) (by omega) (fun h_1 => ?_) (fun h_1 => ?_)
  · refine lv_iconst (v := iI 0) hx hb dX12_isSubscriber_14 rfl ?_
    rw [← hQ]
    exact W.zret (v := iI 0) (ty := .boolean) hx hb hr (nb_bool (by omega) (by omega)) (fun t ht hW => ⟨⟨iI 0, (), rfl, ⟨0, rfl, by omega, by omega⟩, trivial⟩, hS.F ht⟩) hS.2.2 dX12_isSubscriber_15
  · refine lv_iload_n hx hb dX12_isSubscriber_4 rfl (lv_at hl 1 rfl) ?_
    refine lv_bipush (v := iI 10) hx hb dX12_isSubscriber_5 rfl ?_
    refine xr_icmp_ge (tgt := 14) hx hb dX12_isSubscriber_7 (by decide) (by omega) (by omega) (fun h_2 => ?_) (fun h_2 => ?_)
    · refine lv_iconst (v := iI 0) hx hb dX12_isSubscriber_14 rfl ?_
      rw [← hQ]
      exact W.zret (v := iI 0) (ty := .boolean) hx hb hr (nb_bool (by omega) (by omega)) (fun t ht hW => ⟨⟨iI 0, (), rfl, ⟨0, rfl, by omega, by omega⟩, trivial⟩, hS.F ht⟩) hS.2.2 dX12_isSubscriber_15
    · refine lv_iconst (v := iI 1) hx hb dX12_isSubscriber_10 rfl ?_
      refine lv_goto (tgt := 15) hx hb dX12_isSubscriber_11 (by decide) ?_
      rw [← hQ]
      exact W.zret (v := iI 1) (ty := .boolean) hx hb hr (nb_bool (by omega) (by omega)) (fun t ht hW => ⟨⟨iI 1, (), rfl, ⟨1, rfl, by omega, by omega⟩, trivial⟩, hS.F ht⟩) hS.2.2 dX12_isSubscriber_15
set_option maxHeartbeats 2000000 in
set_option maxRecDepth 100000 in
theorem sX1_begin (l : Launch) (dC : Nat → ClassId) (dI : Nat → Nat → Nat) (sz : Nat) (L : List Nat) (cid : Nat → ClassId) (K : Int → Nat) (N : Int → Int) (tW : Nat) (sK sV : Nat → Nat) (v : Int → Int → Int) (p0 : Int) (hI : xI L K N v) (q0 : ok L K p0 1) : Met l yX1_begin (jk yX1_begin cX1_begin 1 none) ({ frames := 0, cells := 0, slots := 0, locals := 0 }) (va_Pc [.ref p0.toNat] (xP (dC, dI) (xG L cid K N v) (xT cid) tW sK sV sz)) (va_Qv (fun (u : (Int → Int → Int)) => (xI L K N u) ∧ (fr K [(1, 3), (1, 7)] u v)) (fun u t => va_P (dC, dI) vwCl (xG L cid K N u) t.heap ∧ va_K (dC, dI) vwCl (xT cid) t ∧ va_D (va_A (xG L cid K N v) sz) (xG L cid K N u)) (va_A (xG L cid K N v) sz)) 0 0 (va_A (xG L cid K N v) sz) := by
  refine Met.ofW (cc := cX1_begin) (maxL := 1) (ret := none) (by decide) rfl ?_
  intro p e s m args below meth c s₁ B hml hv
  obtain ⟨rfl, ⟨hsz, hP, hK, hD0⟩, hX⟩ := hv
  have hx := B.exec
  have hb := B.bytes
  have hr := B.returns
  have hts := atoms_spec (ws := (jk yX1_begin cX1_begin 1 none)) B.pre
  have hj : ∀ w ∈ jw, w.before ([.ref p0.toNat] : List Value).toArray s = true := fun w h => hts w (jm h)
  have hown : s.vm.findClass RX1 = some m.cls := findClass_of_methodNamed B.named
  subst hsz
  have hD := hD0.self (sz := s.heap.size)
  generalize hAe : (va_A (xG L cid K N v) s.heap.size) = A at hD hX ⊢
  have hA : ∀ q : Nat, s.heap.size ≤ q → A q := fun q h => by rw [← hAe]; exact Or.inr h
  have hS : va_S A s.heap s.heap [] := va_S.rf
  have hXa := hX
  have hP : va_P (dC, dI) vwCl (xG L cid K N v) s.heap := hP
  have hl := lv_entry ([.ref p0.toNat]) (n := 1) (Nat.le_of_ble_eq_true rfl)
  rw [lg_entry_eq]
  generalize (lg_sl ([.ref p0.toNat]) ++ List.replicate (1 - (lg_sl ([.ref p0.toNat])).length) Slot.unset).toArray = ls at hl ⊢
  have hl : lv_has ls 1 [(0, .ref p0.toNat)] := hl
  generalize hQ : MQ below (va_Qv (fun (u : (Int → Int → Int)) => (xI L K N u) ∧ (fr K [(1, 3), (1, 7)] u v)) (fun u t => va_P (dC, dI) vwCl (xG L cid K N u) t.heap ∧ va_K (dC, dI) vwCl (xT cid) t ∧ va_D A (xG L cid K N u)) A) ([.ref p0.toNat] : List Value).toArray s 0 0 A = Q
  suffices ST : ∀ (H : Heap) (locs : List Loc), va_P (dC, dI) vwCl (xG L cid K N v) H → va_S A s.heap H locs → W p l e ({ frames := 0, cells := 0, slots := 0, locals := 0 }) s m ([.ref p0.toNat] : List Value).toArray below meth c H locs 0 0 Q (F0 m 0 ls []) from ST _ _ hP hS
  clear hP hS
  intro H locs hP hS
  refine lv_aload_n hx hb dX1_begin_0 rfl (lv_at hl 0 rfl) ?_
  refine lv_iconst (v := iI 0) hx hb dX1_begin_1 rfl ?_
  refine px_RX1_37 (y := 0) hx hb hj hown hK hP hD hS hI q0 ⟨by omega, by omega⟩ dX1_begin_2 (fun v_1 H locs f_2 e_3 o_4 I_5 hP hD hS => ?_)
  refine lv_aload_n hx hb dX1_begin_5 rfl (lv_at hl 0 rfl) ?_
  refine lv_iconst (v := iI 0) hx hb dX1_begin_6 rfl ?_
  refine px_RX1_41 (y := 0) hx hb hj hown hK hP hD hS I_5 q0 ⟨by omega, by omega⟩ dX1_begin_7 (fun v_6 H locs f_7 e_8 o_9 I_10 hP hD hS => ?_)
  rw [← hQ]
  exact W.vret hx hb hr (fun t ht hW => ⟨⟨v_6, rfl, ⟨I_10, (fr_tr f_7 rfl (fr_tr f_2 rfl fr_rf))⟩, by rw [ht]; exact hP, va_K.moved hW.alike hK, hD⟩, hS.F ht⟩) hS.2.2 dX1_begin_10
set_option maxHeartbeats 2000000 in
set_option maxRecDepth 100000 in
theorem sX1_addHand (l : Launch) (dC : Nat → ClassId) (dI : Nat → Nat → Nat) (sz : Nat) (L : List Nat) (cid : Nat → ClassId) (K : Int → Nat) (N : Int → Int) (tW : Nat) (sK sV : Nat → Nat) (v : Int → Int → Int) (p0 : Int) (p1 : Int) (p2 : Int) (hI : xI L K N v) (q0 : ok L K p0 1) (q1 : rg p1) (q2 : rg p2) : Met l yX1_addHand (jk yX1_addHand cX1_addHand 3 none) ({ frames := 0, cells := 0, slots := 0, locals := 0 }) (va_Pc [.ref p0.toNat, .int (iI p1), .int (iI p2)] (xP (dC, dI) (xG L cid K N v) (xT cid) tW sK sV sz)) (va_Qv (fun (u : (Int → Int → Int)) => (xI L K N u) ∧ (fr K [(1, 7), (56, (-1)), (57, (-1)), (58, (-1))] u v)) (fun u t => va_P (dC, dI) vwCl (xG L cid K N u) t.heap ∧ va_K (dC, dI) vwCl (xT cid) t ∧ va_D (va_A (xG L cid K N v) sz) (xG L cid K N u)) (va_A (xG L cid K N v) sz)) 0 0 (va_A (xG L cid K N v) sz) := by
  refine Met.ofW (cc := cX1_addHand) (maxL := 3) (ret := none) (by decide) rfl ?_
  intro p e s m args below meth c s₁ B hml hv
  obtain ⟨rfl, ⟨hsz, hP, hK, hD0⟩, hX⟩ := hv
  have hx := B.exec
  have hb := B.bytes
  have hr := B.returns
  have hts := atoms_spec (ws := (jk yX1_addHand cX1_addHand 3 none)) B.pre
  have hj : ∀ w ∈ jw, w.before ([.ref p0.toNat, .int (iI p1), .int (iI p2)] : List Value).toArray s = true := fun w h => hts w (jm h)
  have hown : s.vm.findClass RX1 = some m.cls := findClass_of_methodNamed B.named
  subst hsz
  have hD := hD0.self (sz := s.heap.size)
  generalize hAe : (va_A (xG L cid K N v) s.heap.size) = A at hD hX ⊢
  have hA : ∀ q : Nat, s.heap.size ≤ q → A q := fun q h => by rw [← hAe]; exact Or.inr h
  have hS : va_S A s.heap s.heap [] := va_S.rf
  have hXa := hX
  have hP : va_P (dC, dI) vwCl (xG L cid K N v) s.heap := hP
  have hl := lv_entry ([.ref p0.toNat, .int (iI p1), .int (iI p2)]) (n := 3) (Nat.le_of_ble_eq_true rfl)
  rw [lg_entry_eq]
  generalize (lg_sl ([.ref p0.toNat, .int (iI p1), .int (iI p2)]) ++ List.replicate (3 - (lg_sl ([.ref p0.toNat, .int (iI p1), .int (iI p2)])).length) Slot.unset).toArray = ls at hl ⊢
  have hl : lv_has ls 3 [(0, .ref p0.toNat), (1, .int (iI p1)), (2, .int (iI p2))] := hl
  generalize hQ : MQ below (va_Qv (fun (u : (Int → Int → Int)) => (xI L K N u) ∧ (fr K [(1, 7), (56, (-1)), (57, (-1)), (58, (-1))] u v)) (fun u t => va_P (dC, dI) vwCl (xG L cid K N u) t.heap ∧ va_K (dC, dI) vwCl (xT cid) t ∧ va_D A (xG L cid K N u)) A) ([.ref p0.toNat, .int (iI p1), .int (iI p2)] : List Value).toArray s 0 0 A = Q
  suffices ST : ∀ (H : Heap) (locs : List Loc), va_P (dC, dI) vwCl (xG L cid K N v) H → va_S A s.heap H locs → W p l e ({ frames := 0, cells := 0, slots := 0, locals := 0 }) s m ([.ref p0.toNat, .int (iI p1), .int (iI p2)] : List Value).toArray below meth c H locs 0 0 Q (F0 m 0 ls []) from ST _ _ hP hS
  clear hP hS
  intro H locs hP hS
  refine lv_aload_n hx hb dX1_addHand_0 rfl (lv_at hl 0 rfl) ?_
  have h_1 : 0 ≤ v p0 7 ∧ v p0 7 ≤ 6 := xf_1_7 hI q0
  refine gx_RX1_41 (y := v p0 7) hx hb hj hown hK hP q0 rfl dX1_addHand_1 ?_
  refine xr_if_lt (tgt := 56) hx hb dX1_addHand_4 (by decide) (by omega) (fun h_2 => ?_) (fun h_2 => ?_)
  · exfalso; omega
  · refine lv_aload_n hx hb dX1_addHand_7 rfl (lv_at hl 0 rfl) ?_
    refine gx_RX1_41 (y := v p0 7) hx hb hj hown hK hP q0 rfl dX1_addHand_8 ?_
    refine lv_bipush (v := iI 6) hx hb dX1_addHand_11 rfl ?_
    refine xr_icmp_ge (tgt := 56) hx hb dX1_addHand_13 (by decide) (by omega) (by omega) (fun h_3 => ?_) (fun h_3 => ?_)
    · rw [← hQ]
      exact W.vret hx hb hr (fun t ht hW => ⟨⟨v, rfl, ⟨hI, fr_rf⟩, by rw [ht]; exact hP, va_K.moved hW.alike hK, hD⟩, hS.F ht⟩) hS.2.2 dX1_addHand_56
    · refine lv_aload_n hx hb dX1_addHand_16 rfl (lv_at hl 0 rfl) ?_
      have h_4 : ok L K (v p0 4) 56 := xf_1_4 hI q0
      have h_5 : N (v p0 4) = 6 := xn_56 hI h_4
      refine gx_RX1_21 (y := v p0 4) hx hb hj hown hK hP q0 ((xf_1_4 hI q0).1) rfl dX1_addHand_17 ?_
      refine lv_aload_n hx hb dX1_addHand_20 rfl (lv_at hl 0 rfl) ?_
      refine gx_RX1_41 (y := v p0 7) hx hb hj hown hK hP q0 rfl dX1_addHand_21 ?_
      refine lv_iload_n hx hb dX1_addHand_24 rfl (lv_at hl 1 rfl) ?_
      refine sx_56 (y := p1) hx hb hK hP hD hS hI h_4 (by omega) (by omega) (by omega) ⟨by omega, by omega⟩ dX1_addHand_25 (fun v_6 H locs f_7 e_8 o_9 I_10 hP hD hS => ?_)
      refine lv_aload_n hx hb dX1_addHand_26 rfl (lv_at hl 0 rfl) ?_
      have h_11 : ok L K (v p0 5) 57 := xf_1_5 hI q0
      have h_12 : N (v p0 5) = 6 := xn_57 hI h_11
      refine gx_RX1_24 (y := v p0 5) hx hb hj hown hK hP q0 ((xf_1_5 I_10 q0).1) (fr_use q0 f_7 rfl) dX1_addHand_27 ?_
      refine lv_aload_n hx hb dX1_addHand_30 rfl (lv_at hl 0 rfl) ?_
      refine gx_RX1_41 (y := v p0 7) hx hb hj hown hK hP q0 (fr_use q0 f_7 rfl) dX1_addHand_31 ?_
      refine lv_iload_n hx hb dX1_addHand_34 rfl (lv_at hl 2 rfl) ?_
      refine sx_57 (y := p2) hx hb hK hP hD hS I_10 h_11 (by omega) (by omega) (by omega) ⟨by omega, by omega⟩ dX1_addHand_35 (fun v_13 H locs f_14 e_15 o_16 I_17 hP hD hS => ?_)
      refine lv_aload_n hx hb dX1_addHand_36 rfl (lv_at hl 0 rfl) ?_
      have h_18 : ok L K (v p0 6) 58 := xf_1_6 hI q0
      have h_19 : N (v p0 6) = 6 := xn_58 hI h_18
      refine gx_RX1_27 (y := v p0 6) hx hb hj hown hK hP q0 ((xf_1_6 I_17 q0).1) (((fr_use q0 f_14 rfl)).trans (fr_use q0 f_7 rfl)) dX1_addHand_37 ?_
      refine lv_aload_n hx hb dX1_addHand_40 rfl (lv_at hl 0 rfl) ?_
      refine gx_RX1_41 (y := v p0 7) hx hb hj hown hK hP q0 (((fr_use q0 f_14 rfl)).trans (fr_use q0 f_7 rfl)) dX1_addHand_41 ?_
      refine lv_iconst (v := iI 0) hx hb dX1_addHand_44 rfl ?_
      refine sx_58 (y := 0) hx hb hK hP hD hS I_17 h_18 (by omega) (by omega) (by omega) ⟨by omega, by omega⟩ dX1_addHand_45 (fun v_20 H locs f_21 e_22 o_23 I_24 hP hD hS => ?_)
      refine lv_aload_n hx hb dX1_addHand_46 rfl (lv_at hl 0 rfl) ?_
      refine lv_dup hx hb dX1_addHand_47 rfl ?_
      refine gx_RX1_41 (y := v p0 7) hx hb hj hown hK hP q0 (((fr_use q0 f_21 rfl)).trans (((fr_use q0 f_14 rfl)).trans (fr_use q0 f_7 rfl))) dX1_addHand_48 ?_
      refine lv_iconst (v := iI 1) hx hb dX1_addHand_51 rfl ?_
      refine xr_add hx hb dX1_addHand_52 ?_
      refine px_RX1_41 (y := (v p0 7) + 1) hx hb hj hown hK hP hD hS I_24 q0 ⟨by omega, by omega⟩ dX1_addHand_53 (fun v_25 H locs f_26 e_27 o_28 I_29 hP hD hS => ?_)
      rw [← hQ]
      exact W.vret hx hb hr (fun t ht hW => ⟨⟨v_25, rfl, ⟨I_29, (fr_tr f_26 rfl (fr_tr f_21 rfl (fr_tr f_14 rfl (fr_tr f_7 rfl fr_rf))))⟩, by rw [ht]; exact hP, va_K.moved hW.alike hK, hD⟩, hS.F ht⟩) hS.2.2 dX1_addHand_56
set_option maxHeartbeats 2000000 in
set_option maxRecDepth 100000 in
theorem sX1_addArticle (l : Launch) (dC : Nat → ClassId) (dI : Nat → Nat → Nat) (sz : Nat) (L : List Nat) (cid : Nat → ClassId) (K : Int → Nat) (N : Int → Int) (tW : Nat) (sK sV : Nat → Nat) (v : Int → Int → Int) (p0 : Int) (p1 : Int) (p2 : Int) (hI : xI L K N v) (q0 : ok L K p0 1) (q1 : rg p1) (q2 : rg p2) : Met l yX1_addArticle (jk yX1_addArticle cX1_addArticle 3 none) ({ frames := 0, cells := 0, slots := 0, locals := 0 }) (va_Pc [.ref p0.toNat, .int (iI p1), .int (iI p2)] (xP (dC, dI) (xG L cid K N v) (xT cid) tW sK sV sz)) (va_Qv (fun (u : (Int → Int → Int)) => (xI L K N u) ∧ (fr K [(1, 3), (53, (-1)), (54, (-1)), (55, (-1))] u v)) (fun u t => va_P (dC, dI) vwCl (xG L cid K N u) t.heap ∧ va_K (dC, dI) vwCl (xT cid) t ∧ va_D (va_A (xG L cid K N v) sz) (xG L cid K N u)) (va_A (xG L cid K N v) sz)) 0 0 (va_A (xG L cid K N v) sz) := by
  refine Met.ofW (cc := cX1_addArticle) (maxL := 3) (ret := none) (by decide) rfl ?_
  intro p e s m args below meth c s₁ B hml hv
  obtain ⟨rfl, ⟨hsz, hP, hK, hD0⟩, hX⟩ := hv
  have hx := B.exec
  have hb := B.bytes
  have hr := B.returns
  have hts := atoms_spec (ws := (jk yX1_addArticle cX1_addArticle 3 none)) B.pre
  have hj : ∀ w ∈ jw, w.before ([.ref p0.toNat, .int (iI p1), .int (iI p2)] : List Value).toArray s = true := fun w h => hts w (jm h)
  have hown : s.vm.findClass RX1 = some m.cls := findClass_of_methodNamed B.named
  subst hsz
  have hD := hD0.self (sz := s.heap.size)
  generalize hAe : (va_A (xG L cid K N v) s.heap.size) = A at hD hX ⊢
  have hA : ∀ q : Nat, s.heap.size ≤ q → A q := fun q h => by rw [← hAe]; exact Or.inr h
  have hS : va_S A s.heap s.heap [] := va_S.rf
  have hXa := hX
  have hP : va_P (dC, dI) vwCl (xG L cid K N v) s.heap := hP
  have hl := lv_entry ([.ref p0.toNat, .int (iI p1), .int (iI p2)]) (n := 3) (Nat.le_of_ble_eq_true rfl)
  rw [lg_entry_eq]
  generalize (lg_sl ([.ref p0.toNat, .int (iI p1), .int (iI p2)]) ++ List.replicate (3 - (lg_sl ([.ref p0.toNat, .int (iI p1), .int (iI p2)])).length) Slot.unset).toArray = ls at hl ⊢
  have hl : lv_has ls 3 [(0, .ref p0.toNat), (1, .int (iI p1)), (2, .int (iI p2))] := hl
  generalize hQ : MQ below (va_Qv (fun (u : (Int → Int → Int)) => (xI L K N u) ∧ (fr K [(1, 3), (53, (-1)), (54, (-1)), (55, (-1))] u v)) (fun u t => va_P (dC, dI) vwCl (xG L cid K N u) t.heap ∧ va_K (dC, dI) vwCl (xT cid) t ∧ va_D A (xG L cid K N u)) A) ([.ref p0.toNat, .int (iI p1), .int (iI p2)] : List Value).toArray s 0 0 A = Q
  suffices ST : ∀ (H : Heap) (locs : List Loc), va_P (dC, dI) vwCl (xG L cid K N v) H → va_S A s.heap H locs → W p l e ({ frames := 0, cells := 0, slots := 0, locals := 0 }) s m ([.ref p0.toNat, .int (iI p1), .int (iI p2)] : List Value).toArray below meth c H locs 0 0 Q (F0 m 0 ls []) from ST _ _ hP hS
  clear hP hS
  intro H locs hP hS
  refine lv_aload_n hx hb dX1_addArticle_0 rfl (lv_at hl 0 rfl) ?_
  have h_1 : 0 ≤ v p0 3 ∧ v p0 3 ≤ 7 := xf_1_3 hI q0
  refine gx_RX1_37 (y := v p0 3) hx hb hj hown hK hP q0 rfl dX1_addArticle_1 ?_
  refine xr_if_lt (tgt := 56) hx hb dX1_addArticle_4 (by decide) (by omega) (fun h_2 => ?_) (fun h_2 => ?_)
  · exfalso; omega
  · refine lv_aload_n hx hb dX1_addArticle_7 rfl (lv_at hl 0 rfl) ?_
    refine gx_RX1_37 (y := v p0 3) hx hb hj hown hK hP q0 rfl dX1_addArticle_8 ?_
    refine lv_bipush (v := iI 7) hx hb dX1_addArticle_11 rfl ?_
    refine xr_icmp_ge (tgt := 56) hx hb dX1_addArticle_13 (by decide) (by omega) (by omega) (fun h_3 => ?_) (fun h_3 => ?_)
    · rw [← hQ]
      exact W.vret hx hb hr (fun t ht hW => ⟨⟨v, rfl, ⟨hI, fr_rf⟩, by rw [ht]; exact hP, va_K.moved hW.alike hK, hD⟩, hS.F ht⟩) hS.2.2 dX1_addArticle_56
    · refine lv_aload_n hx hb dX1_addArticle_16 rfl (lv_at hl 0 rfl) ?_
      have h_4 : ok L K (v p0 0) 53 := xf_1_0 hI q0
      have h_5 : N (v p0 0) = 7 := xn_53 hI h_4
      refine gx_RX1_11 (y := v p0 0) hx hb hj hown hK hP q0 ((xf_1_0 hI q0).1) rfl dX1_addArticle_17 ?_
      refine lv_aload_n hx hb dX1_addArticle_20 rfl (lv_at hl 0 rfl) ?_
      refine gx_RX1_37 (y := v p0 3) hx hb hj hown hK hP q0 rfl dX1_addArticle_21 ?_
      refine lv_iload_n hx hb dX1_addArticle_24 rfl (lv_at hl 1 rfl) ?_
      refine sx_53 (y := p1) hx hb hK hP hD hS hI h_4 (by omega) (by omega) (by omega) ⟨by omega, by omega⟩ dX1_addArticle_25 (fun v_6 H locs f_7 e_8 o_9 I_10 hP hD hS => ?_)
      refine lv_aload_n hx hb dX1_addArticle_26 rfl (lv_at hl 0 rfl) ?_
      have h_11 : ok L K (v p0 1) 54 := xf_1_1 hI q0
      have h_12 : N (v p0 1) = 7 := xn_54 hI h_11
      refine gx_RX1_15 (y := v p0 1) hx hb hj hown hK hP q0 ((xf_1_1 I_10 q0).1) (fr_use q0 f_7 rfl) dX1_addArticle_27 ?_
      refine lv_aload_n hx hb dX1_addArticle_30 rfl (lv_at hl 0 rfl) ?_
      refine gx_RX1_37 (y := v p0 3) hx hb hj hown hK hP q0 (fr_use q0 f_7 rfl) dX1_addArticle_31 ?_
      refine lv_iload_n hx hb dX1_addArticle_34 rfl (lv_at hl 2 rfl) ?_
      refine sx_54 (y := p2) hx hb hK hP hD hS I_10 h_11 (by omega) (by omega) (by omega) ⟨by omega, by omega⟩ dX1_addArticle_35 (fun v_13 H locs f_14 e_15 o_16 I_17 hP hD hS => ?_)
      refine lv_aload_n hx hb dX1_addArticle_36 rfl (lv_at hl 0 rfl) ?_
      have h_18 : ok L K (v p0 2) 55 := xf_1_2 hI q0
      have h_19 : N (v p0 2) = 7 := xn_55 hI h_18
      refine gx_RX1_18 (y := v p0 2) hx hb hj hown hK hP q0 ((xf_1_2 I_17 q0).1) (((fr_use q0 f_14 rfl)).trans (fr_use q0 f_7 rfl)) dX1_addArticle_37 ?_
      refine lv_aload_n hx hb dX1_addArticle_40 rfl (lv_at hl 0 rfl) ?_
      refine gx_RX1_37 (y := v p0 3) hx hb hj hown hK hP q0 (((fr_use q0 f_14 rfl)).trans (fr_use q0 f_7 rfl)) dX1_addArticle_41 ?_
      refine lv_iconst (v := iI (-1)) hx hb dX1_addArticle_44 rfl ?_
      refine sx_55 (y := (-1)) hx hb hK hP hD hS I_17 h_18 (by omega) (by omega) (by omega) ⟨by omega, by omega⟩ dX1_addArticle_45 (fun v_20 H locs f_21 e_22 o_23 I_24 hP hD hS => ?_)
      refine lv_aload_n hx hb dX1_addArticle_46 rfl (lv_at hl 0 rfl) ?_
      refine lv_dup hx hb dX1_addArticle_47 rfl ?_
      refine gx_RX1_37 (y := v p0 3) hx hb hj hown hK hP q0 (((fr_use q0 f_21 rfl)).trans (((fr_use q0 f_14 rfl)).trans (fr_use q0 f_7 rfl))) dX1_addArticle_48 ?_
      refine lv_iconst (v := iI 1) hx hb dX1_addArticle_51 rfl ?_
      refine xr_add hx hb dX1_addArticle_52 ?_
      refine px_RX1_37 (y := (v p0 3) + 1) hx hb hj hown hK hP hD hS I_24 q0 ⟨by omega, by omega⟩ dX1_addArticle_53 (fun v_25 H locs f_26 e_27 o_28 I_29 hP hD hS => ?_)
      rw [← hQ]
      exact W.vret hx hb hr (fun t ht hW => ⟨⟨v_25, rfl, ⟨I_29, (fr_tr f_26 rfl (fr_tr f_21 rfl (fr_tr f_14 rfl (fr_tr f_7 rfl fr_rf))))⟩, by rw [ht]; exact hP, va_K.moved hW.alike hK, hD⟩, hS.F ht⟩) hS.2.2 dX1_addArticle_56
set_option maxHeartbeats 2000000 in
set_option maxRecDepth 100000 in
theorem sX1_handNumber (l : Launch) (dC : Nat → ClassId) (dI : Nat → Nat → Nat) (sz : Nat) (L : List Nat) (cid : Nat → ClassId) (K : Int → Nat) (N : Int → Int) (tW : Nat) (sK sV : Nat → Nat) (v : Int → Int → Int) (p0 : Int) (p1 : Int) (hI : xI L K N v) (q0 : ok L K p0 1) (q1 : rg p1) : Met l yX1_handNumber (jk yX1_handNumber cX1_handNumber 2 (some .int)) ({ frames := 0, cells := 0, slots := 0, locals := 0 }) (va_Pc [.ref p0.toNat, .int (iI p1)] (xP (dC, dI) (xG L cid K N v) (xT cid) tW sK sV sz)) (va_Qi (fun (r : Int32) (_ : Unit) => ∃ z : Int, r = iI z ∧ (rg z)) (fun _ _ => True) (va_A [] sz)) 0 0 (va_A [] sz) := by
  refine Met.ofW (cc := cX1_handNumber) (maxL := 2) (ret := (some .int)) (by decide) rfl ?_
  intro p e s m args below meth c s₁ B hml hv
  obtain ⟨rfl, ⟨hsz, hP, hK, hD0⟩, hX⟩ := hv
  have hx := B.exec
  have hb := B.bytes
  have hr := B.returns
  have hts := atoms_spec (ws := (jk yX1_handNumber cX1_handNumber 2 (some .int))) B.pre
  have hj : ∀ w ∈ jw, w.before ([.ref p0.toNat, .int (iI p1)] : List Value).toArray s = true := fun w h => hts w (jm h)
  have hown : s.vm.findClass RX1 = some m.cls := findClass_of_methodNamed B.named
  subst hsz
  have hDw := hD0.self (sz := s.heap.size)
  have hAA : ∀ q : Nat, s.heap.size ≤ q → va_A (xG L cid K N v) s.heap.size q := fun q h => Or.inr h
  have hAw : ∀ q, va_A [] s.heap.size q → va_A (xG L cid K N v) s.heap.size q := ja_nil va_S.rf hAA
  generalize hAe : (va_A [] s.heap.size) = A at hAw ⊢
  have hA : ∀ q : Nat, s.heap.size ≤ q → A q := fun q h => by rw [← hAe]; exact Or.inr h
  have hS : va_S A s.heap s.heap [] := va_S.rf
  have hXa := hX.nar hAw
  have hP : va_P (dC, dI) vwCl (xG L cid K N v) s.heap := hP
  have hl := lv_entry ([.ref p0.toNat, .int (iI p1)]) (n := 2) (Nat.le_of_ble_eq_true rfl)
  rw [lg_entry_eq]
  generalize (lg_sl ([.ref p0.toNat, .int (iI p1)]) ++ List.replicate (2 - (lg_sl ([.ref p0.toNat, .int (iI p1)])).length) Slot.unset).toArray = ls at hl ⊢
  have hl : lv_has ls 2 [(0, .ref p0.toNat), (1, .int (iI p1))] := hl
  generalize hQ : MQ below (va_Qi (fun (r : Int32) (_ : Unit) => ∃ z : Int, r = iI z ∧ (rg z)) (fun _ _ => True) A) ([.ref p0.toNat, .int (iI p1)] : List Value).toArray s 0 0 A = Q
  suffices ST : ∀ (H : Heap) (locs : List Loc), va_P (dC, dI) vwCl (xG L cid K N v) H → va_S A s.heap H locs → W p l e ({ frames := 0, cells := 0, slots := 0, locals := 0 }) s m ([.ref p0.toNat, .int (iI p1)] : List Value).toArray below meth c H locs 0 0 Q (F0 m 0 ls []) from ST _ _ hP hS
  clear hP hS
  intro H locs hP hS
  refine lv_iload_n hx hb dX1_handNumber_0 rfl (lv_at hl 1 rfl) ?_
  refine xr_if_lt (tgt := 19) hx hb dX1_handNumber_1 (by decide) (by omega) (fun h_1 => ?_) (fun h_1 => ?_)
  · refine lv_iconst (v := iI (-1)) hx hb dX1_handNumber_19 rfl ?_
    rw [← hQ]
    exact W.iret (v := iI (-1)) hx hb hr (fun t ht hW => ⟨⟨iI (-1), (), rfl, ⟨(-1), rfl, by omega⟩, trivial⟩, hS.F ht⟩) hS.2.2 dX1_handNumber_20
  · refine lv_iload_n hx hb dX1_handNumber_4 rfl (lv_at hl 1 rfl) ?_
    refine lv_bipush (v := iI 6) hx hb dX1_handNumber_5 rfl ?_
    refine xr_icmp_ge (tgt := 19) hx hb dX1_handNumber_7 (by decide) (by omega) (by omega) (fun h_2 => ?_) (fun h_2 => ?_)
    · refine lv_iconst (v := iI (-1)) hx hb dX1_handNumber_19 rfl ?_
      rw [← hQ]
      exact W.iret (v := iI (-1)) hx hb hr (fun t ht hW => ⟨⟨iI (-1), (), rfl, ⟨(-1), rfl, by omega⟩, trivial⟩, hS.F ht⟩) hS.2.2 dX1_handNumber_20
    · refine lv_aload_n hx hb dX1_handNumber_10 rfl (lv_at hl 0 rfl) ?_
      have h_3 : ok L K (v p0 4) 56 := xf_1_4 hI q0
      have h_4 : N (v p0 4) = 6 := xn_56 hI h_3
      refine gx_RX1_21 (y := v p0 4) hx hb hj hown hK hP q0 ((xf_1_4 hI q0).1) rfl dX1_handNumber_11 ?_
      refine lv_iload_n hx hb dX1_handNumber_14 rfl (lv_at hl 1 rfl) ?_
      have h_5 : (-2147483648) ≤ v (v p0 4) p1 ∧ v (v p0 4) p1 ≤ 2147483647 := xe_56 hI h_3 (by omega)
      refine ax_56 (y := v (v p0 4) p1) hx hb hK hP h_3 (by omega) (by omega) (by omega) rfl dX1_handNumber_15 ?_
      refine lv_goto (tgt := 20) hx hb dX1_handNumber_16 (by decide) ?_
      rw [← hQ]
      exact W.iret (v := iI (v (v p0 4) p1)) hx hb hr (fun t ht hW => ⟨⟨iI (v (v p0 4) p1), (), rfl, ⟨v (v p0 4) p1, rfl, by omega⟩, trivial⟩, hS.F ht⟩) hS.2.2 dX1_handNumber_20
