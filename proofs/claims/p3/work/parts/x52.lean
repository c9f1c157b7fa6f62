set_option maxHeartbeats 2000000 in
set_option maxRecDepth 100000 in
theorem sX12_handAt (l : Launch) (dC : Nat → ClassId) (dI : Nat → Nat → Nat) (sz : Nat) (L : List Nat) (cid : Nat → ClassId) (K : Int → Nat) (N : Int → Int) (tW : Nat) (sK sV : Nat → Nat) (v : Int → Int → Int) (p0 : Int) (p1 : Int) (hI : xI L K N v) (q0 : ok L K p0 12) (q1 : rg p1) : Met l yX12_handAt (jk yX12_handAt cX12_handAt 2 (some (.object "BookOfAll$Hand"))) ({ frames := 0, cells := 0, slots := 0, locals := 0 }) (va_Pc [.ref p0.toNat, .int (iI p1)] (xP (dC, dI) (xG L cid K N v) (xT cid) tW sK sV sz)) (va_Qq (fun (r : Option Nat) (_ : Unit) => ∃ z : Int, r = opt z ∧ (z < 0 ∨ ok L K z 2) ∧ ((0 ≤ p1 ∧ p1 < v p0 11 ∧ z = v (v p0 10) p1) ∨ ((p1 < 0 ∨ v p0 11 ≤ p1) ∧ z < 0))) (fun _ _ => True) (va_A [] sz)) 0 0 (va_A [] sz) := by
  refine Met.ofW (cc := cX12_handAt) (maxL := 2) (ret := (some (.object "BookOfAll$Hand"))) (by decide) rfl ?_
  intro p e s m args below meth c s₁ B hml hv
  obtain ⟨rfl, ⟨hsz, hP, hK, hD0⟩, hX⟩ := hv
  have hx := B.exec
  have hb := B.bytes
  have hr := B.returns
  have hts := atoms_spec (ws := (jk yX12_handAt cX12_handAt 2 (some (.object "BookOfAll$Hand")))) B.pre
  have hj : ∀ w ∈ jw, w.before ([.ref p0.toNat, .int (iI p1)] : List Value).toArray s = true := fun w h => hts w (jm h)
  have hown : s.vm.findClass RX12 = some m.cls := findClass_of_methodNamed B.named
  subst hsz
  have hDw := hD0.self (sz := s.heap.size)
  have hAA : ∀ q : Nat, s.heap.size ≤ q → va_A (xG L cid K N v) s.heap.size q := fun q h => Or.inr h
  have hAw : ∀ q, va_A [] s.heap.size q → va_A (xG L cid K N v) s.heap.size q := ja_nil va_S.rf hAA
  generalize hAe : (va_A [] s.heap.size) = A at hAw ⊢
  have hA : ∀ q : Nat, s.heap.size ≤ q → A q := fun q h => by rw [← hAe]; exact Or.inr h
  have hS : va_S A s.heap s.heap [] := va_S.rf
  have hXa := hX.nar hAw
  have hP : va_P (dC, dI) vwCl (xG L cid K N v) s.heap := hP
  have hl := lv_entry ([.ref p0.toNat, .int (iI p1)]) (n := 2) (Nat.le_of_ble_eq_true rfl)
  rw [lg_entry_eq]
  generalize (lg_sl ([.ref p0.toNat, .int (iI p1)]) ++ List.replicate (2 - (lg_sl ([.ref p0.toNat, .int (iI p1)])).length) Slot.unset).toArray = ls at hl ⊢
  have hl : lv_has ls 2 [(0, .ref p0.toNat), (1, .int (iI p1))] := hl
  generalize hQ : MQ below (va_Qq (fun (r : Option Nat) (_ : Unit) => ∃ z : Int, r = opt z ∧ (z < 0 ∨ ok L K z 2) ∧ ((0 ≤ p1 ∧ p1 < v p0 11 ∧ z = v (v p0 10) p1) ∨ ((p1 < 0 ∨ v p0 11 ≤ p1) ∧ z < 0))) (fun _ _ => True) A) ([.ref p0.toNat, .int (iI p1)] : List Value).toArray s 0 0 A = Q
  suffices ST : ∀ (H : Heap) (locs : List Loc), va_P (dC, dI) vwCl (xG L cid K N v) H → va_S A s.heap H locs → W p l e ({ frames := 0, cells := 0, slots := 0, locals := 0 }) s m ([.ref p0.toNat, .int (iI p1)] : List Value).toArray below meth c H locs 0 0 Q (F0 m 0 ls []) from ST _ _ hP hS
  clear hP hS
  intro H locs hP hS
  refine lv_iload_n hx hb dX12_handAt_0 rfl (lv_at hl 1 rfl) ?_
  refine xr_if_lt (tgt := 27) hx hb dX12_handAt_1 (by decide) (by omega) (fun h_1 => ?_) (fun h_1 => ?_)
  · refine lv_null hx hb dX12_handAt_27 ?_
    refine jt_q (rv (-1)) rv_nul ?_
    have h_2 : 0 ≤ v p0 11 ∧ v p0 11 ≤ 12 := xf_12_11 hI q0
    have h_3 : ok L K (v p0 10) 38 := xf_12_10 hI q0
    have h_4 : N (v p0 10) = 12 := xn_38 hI h_3
    rw [← hQ]
    exact W.aret (v := rv (-1)) hx hb hr (Or.inl ⟨_, rfl⟩) (rv_or (-1)) (fun t ht hW => ⟨⟨opt (-1), (), rfl, ⟨-1, rfl, (Or.inl (by decide)), by omega⟩, trivial⟩, hS.F ht⟩) hS.2.2 dX12_handAt_28
  · refine lv_iload_n hx hb dX12_handAt_4 rfl (lv_at hl 1 rfl) ?_
    refine lv_aload_n hx hb dX12_handAt_5 rfl (lv_at hl 0 rfl) ?_
    have h_5 : 0 ≤ v p0 11 ∧ v p0 11 ≤ 12 := xf_12_11 hI q0
    refine gx_RX12_292 (y := v p0 11) hx hb hj hown hK hP q0 rfl dX12_handAt_6 ?_
    refine xr_icmp_ge (tgt := 27) hx hb dX12_handAt_9 (by decide) (by omega) (by omega) (fun h_6 => ?_) (fun h_6 => ?_)
    · refine lv_null hx hb dX12_handAt_27 ?_
      refine jt_q (rv (-1)) rv_nul ?_
      have h_7 : ok L K (v p0 10) 38 := xf_12_10 hI q0
      have h_8 : N (v p0 10) = 12 := xn_38 hI h_7
      rw [← hQ]
      exact W.aret (v := rv (-1)) hx hb hr (Or.inl ⟨_, rfl⟩) (rv_or (-1)) (fun t ht hW => ⟨⟨opt (-1), (), rfl, ⟨-1, rfl, (Or.inl (by decide)), by omega⟩, trivial⟩, hS.F ht⟩) hS.2.2 dX12_handAt_28
    · refine lv_iload_n hx hb dX12_handAt_12 rfl (lv_at hl 1 rfl) ?_
      refine lv_bipush (v := iI 12) hx hb dX12_handAt_13 rfl ?_
      refine xr_icmp_ge (tgt := 27) hx hb dX12_handAt_15 (by decide) (by omega) (by omega) (fun h_9 => ?_) (fun h_9 => ?_)
      · exfalso; omega
      · refine lv_aload_n hx hb dX12_handAt_18 rfl (lv_at hl 0 rfl) ?_
        have h_10 : ok L K (v p0 10) 38 := xf_12_10 hI q0
        have h_11 : N (v p0 10) = 12 := xn_38 hI h_10
        refine gx_RX12_53 (y := v p0 10) hx hb hj hown hK hP q0 ((xf_12_10 hI q0).1) rfl dX12_handAt_19 ?_
        refine lv_iload_n hx hb dX12_handAt_22 rfl (lv_at hl 1 rfl) ?_
        have h_12 : v (v p0 10) p1 < 0 ∨ ok L K (v (v p0 10) p1) 2 := xe_38 hI h_10 (by omega)
        refine ax_38 (y := v (v p0 10) p1) hx hb hK hP h_10 (by omega) (by omega) (by omega) rfl dX12_handAt_23 ?_
        refine lv_goto (tgt := 28) hx hb dX12_handAt_24 (by decide) ?_
        rw [← hQ]
        exact W.aret (v := rv (v (v p0 10) p1)) hx hb hr (Or.inl ⟨_, rfl⟩) (rv_or (v (v p0 10) p1)) (fun t ht hW => ⟨⟨opt (v (v p0 10) p1), (), rfl, ⟨v (v p0 10) p1, rfl, h_12, by omega⟩, trivial⟩, hS.F ht⟩) hS.2.2 dX12_handAt_28
set_option maxHeartbeats 2000000 in
set_option maxRecDepth 100000 in
theorem sX12_livingHandAt (l : Launch) (dC : Nat → ClassId) (dI : Nat → Nat → Nat) (sz : Nat) (L : List Nat) (cid : Nat → ClassId) (K : Int → Nat) (N : Int → Int) (tW : Nat) (sK sV : Nat → Nat) (v : Int → Int → Int) (p0 : Int) (p1 : Int) (hI : xI L K N v) (q0 : ok L K p0 12) (q1 : rg p1) : Met l yX12_livingHandAt (jk yX12_livingHandAt cX12_livingHandAt 3 (some (.object "BookOfAll$Hand"))) ({ frames := 1, cells := 0, slots := 0, locals := 21 }) (va_Pc [.ref p0.toNat, .int (iI p1)] (xP (dC, dI) (xG L cid K N v) (xT cid) tW sK sV sz)) (va_Qq (fun (r : Option Nat) (_ : Unit) => ∃ z : Int, r = opt z ∧ (z < 0 ∨ ok L K z 2)) (fun _ _ => True) (va_A [] sz)) 0 0 (va_A [] sz) := by
  refine Met.ofW (cc := cX12_livingHandAt) (maxL := 3) (ret := (some (.object "BookOfAll$Hand"))) (by decide) rfl ?_
  intro p e s m args below meth c s₁ B hml hv
  obtain ⟨rfl, ⟨hsz, hP, hK, hD0⟩, hX⟩ := hv
  have hx := B.exec
  have hb := B.bytes
  have hr := B.returns
  have hts := atoms_spec (ws := (jk yX12_livingHandAt cX12_livingHandAt 3 (some (.object "BookOfAll$Hand")))) B.pre
  have hj : ∀ w ∈ jw, w.before ([.ref p0.toNat, .int (iI p1)] : List Value).toArray s = true := fun w h => hts w (jm h)
  have hown : s.vm.findClass RX12 = some m.cls := findClass_of_methodNamed B.named
  subst hsz
  have hDw := hD0.self (sz := s.heap.size)
  have hAA : ∀ q : Nat, s.heap.size ≤ q → va_A (xG L cid K N v) s.heap.size q := fun q h => Or.inr h
  have hAw : ∀ q, va_A [] s.heap.size q → va_A (xG L cid K N v) s.heap.size q := ja_nil va_S.rf hAA
  generalize hAe : (va_A [] s.heap.size) = A at hAw ⊢
  have hA : ∀ q : Nat, s.heap.size ≤ q → A q := fun q h => by rw [← hAe]; exact Or.inr h
  have hS : va_S A s.heap s.heap [] := va_S.rf
  have hXa := hX.nar hAw
  have hP : va_P (dC, dI) vwCl (xG L cid K N v) s.heap := hP
  have hl := lv_entry ([.ref p0.toNat, .int (iI p1)]) (n := 3) (Nat.le_of_ble_eq_true rfl)
  rw [lg_entry_eq]
  generalize (lg_sl ([.ref p0.toNat, .int (iI p1)]) ++ List.replicate (3 - (lg_sl ([.ref p0.toNat, .int (iI p1)])).length) Slot.unset).toArray = ls at hl ⊢
  have hl : lv_has ls 3 [(0, .ref p0.toNat), (1, .int (iI p1))] := hl
  generalize hQ : MQ below (va_Qq (fun (r : Option Nat) (_ : Unit) => ∃ z : Int, r = opt z ∧ (z < 0 ∨ ok L K z 2)) (fun _ _ => True) A) ([.ref p0.toNat, .int (iI p1)] : List Value).toArray s 0 0 A = Q
  suffices ST : ∀ (H : Heap) (locs : List Loc), va_P (dC, dI) vwCl (xG L cid K N v) H → va_S A s.heap H locs → W p l e ({ frames := 1, cells := 0, slots := 0, locals := 21 }) s m ([.ref p0.toNat, .int (iI p1)] : List Value).toArray below meth c H locs 0 0 Q (F0 m 0 ls []) from ST _ _ hP hS
  clear hP hS
  intro H locs hP hS
  refine lv_aload_n hx hb dX12_livingHandAt_0 rfl (lv_at hl 0 rfl) ?_
  refine lv_iload_n hx hb dX12_livingHandAt_1 rfl (lv_at hl 1 rfl) ?_
  refine jc_q (va_runV (As := [.int (iI p1)]) (rest := []) ⟨hx, hb, hml, hown, hts⟩ (sX12_handAt l dC dI _ L cid K N tW sK sV v p0 p1 hI q0 (by omega)) (cwV 1 hts (jgoodV m_1056 m_1057 m_1058 m_873 m_1059) rfl rfl rfl (by decide +kernel) ⟨(Nat.le_of_ble_eq_true rfl), (Nat.le_of_ble_eq_true rfl)⟩) ⟨xP_blind, xrecv hK hP q0 rfl rfl, fun U hU hW => ⟨rfl, xP_of hU hW hP hK hDw hX hS hAw hAA⟩⟩ rfl rfl hl.1 rfl (lv_room (Nat.le_of_ble_eq_true rfl)) dX12_livingHandAt_2 ⟨(Nat.le_of_ble_eq_true rfl), (Nat.le_of_ble_eq_true rfl)⟩) hP hS hA (fun r_1 H locs w_2 hP hS => ?_)
  obtain ⟨z_3, rfl, h_4, h_5⟩ := w_2
  have h_6 : 0 ≤ v p0 11 ∧ v p0 11 ≤ 12 := xf_12_11 hI q0
  have h_7 : ok L K (v p0 10) 38 := xf_12_10 hI q0
  have h_8 : N (v p0 10) = 12 := xn_38 hI h_7
  refine jt_q (rv z_3) rfl ?_
  refine xq_astore_n (i := 2) (lv' := [(2, rv z_3), (0, .ref p0.toNat), (1, .int (iI p1))]) hx hb dX12_livingHandAt_5 rfl hl (by decide) rfl (fun ls hl => ?_)
  refine xq_aload_n hx hb dX12_livingHandAt_6 rfl (lv_at hl 0 rfl) ?_
  refine xq_ifnull (tgt := 21) hx hb dX12_livingHandAt_7 (by decide) (fun h_9 => ?_) (fun h_9 => ?_)
  · refine lv_null hx hb dX12_livingHandAt_21 ?_
    refine jt_q (rv (-1)) rv_nul ?_
    rw [← hQ]
    exact W.aret (v := rv (-1)) hx hb hr (Or.inl ⟨_, rfl⟩) (rv_or (-1)) (fun t ht hW => ⟨⟨opt (-1), (), rfl, ⟨-1, rfl, (Or.inl (by decide))⟩, trivial⟩, hS.F ht⟩) hS.2.2 dX12_livingHandAt_22
  · have h_10 : ok L K z_3 2 := h_4.resolve_left (by omega)
    refine xq_aload_n hx hb dX12_livingHandAt_10 rfl (lv_at hl 0 rfl) ?_
    refine jt_q (.ref z_3.toNat) (rv_ref (h_10).1) ?_
    have h_11 : 0 ≤ v z_3 3 ∧ v z_3 3 ≤ 1 := xf_2_3 hI h_10
    refine gx_RX12_300 (y := v z_3 3) hx hb hj hown hK hP h_10 rfl dX12_livingHandAt_11 ?_
    refine xr_if_eq (tgt := 21) hx hb dX12_livingHandAt_14 (by decide) (by omega) (fun h_12 => ?_) (fun h_12 => ?_)
    · refine lv_null hx hb dX12_livingHandAt_21 ?_
      refine jt_q (rv (-1)) rv_nul ?_
      rw [← hQ]
      exact W.aret (v := rv (-1)) hx hb hr (Or.inl ⟨_, rfl⟩) (rv_or (-1)) (fun t ht hW => ⟨⟨opt (-1), (), rfl, ⟨-1, rfl, (Or.inl (by decide))⟩, trivial⟩, hS.F ht⟩) hS.2.2 dX12_livingHandAt_22
    · refine xq_aload_n hx hb dX12_livingHandAt_17 rfl (lv_at hl 0 rfl) ?_
      refine jt_q (.ref z_3.toNat) (rv_ref (h_10).1) ?_
      refine lv_goto (tgt := 22) hx hb dX12_livingHandAt_18 (by decide) ?_
      rw [← hQ]
      refine jt_q (rv z_3) (rv_ref (h_10).1).symm ?_
      exact W.aret (v := rv z_3) hx hb hr (Or.inl ⟨_, rfl⟩) (rv_or z_3) (fun t ht hW => ⟨⟨opt z_3, (), rfl, ⟨z_3, rfl, (Or.inr h_10)⟩, trivial⟩, hS.F ht⟩) hS.2.2 dX12_livingHandAt_22
set_option maxHeartbeats 2000000 in
set_option maxRecDepth 100000 in
theorem sX12_enemies (l : Launch) (dC : Nat → ClassId) (dI : Nat → Nat → Nat) (sz : Nat) (L : List Nat) (cid : Nat → ClassId) (K : Int → Nat) (N : Int → Int) (tW : Nat) (sK sV : Nat → Nat) (v : Int → Int → Int) (p0 : Int) (p1 : Int) (p2 : Int) (hI : xI L K N v) (q0 : ok L K p0 12) (q1 : rg p1) (q2 : rg p2) : Met l yX12_enemies (jk yX12_enemies cX12_enemies 5 (some .boolean)) ({ frames := 1, cells := 0, slots := 0, locals := 21 }) (va_Pc [.ref p0.toNat, .int (iI p1), .int (iI p2)] (xP (dC, dI) (xG L cid K N v) (xT cid) tW sK sV sz)) (va_Qi (fun (r : Int32) (u : (Int → Int → Int)) => ∃ z : Int, r = iI z ∧ (xI L K N u) ∧ (fr K [(2, 4)] u v) ∧ (0 ≤ z ∧ z ≤ 1) ∧ ((z = 0) ∨ (z = 1 ∧ 0 ≤ p1 ∧ p1 < v p0 11 ∧ 0 ≤ p2 ∧ p2 < v p0 11 ∧ 0 ≤ v (v p0 10) p1 ∧ 0 ≤ v (v p0 10) p2 ∧ p1 ≠ p2)) ∧ (z = 1 → zand (zshr (v (v (v p0 10) p1) 4) p2) 1 = 0) ∧ (z = 0 → (p1 < 0 ∨ v p0 11 ≤ p1 ∨ p2 < 0 ∨ v p0 11 ≤ p2 ∨ v (v p0 10) p1 < 0 ∨ v (v p0 10) p2 < 0 ∨ p1 = p2 ∨ zand (zshr (v (v (v p0 10) p1) 4) p2) 1 ≠ 0)) ∧ (z = 0 → u = v) ∧ (z = 1 → u = vu (vu v (v (v p0 10) p1) 4 (zor (v (v (v p0 10) p1) 4) (zshl 1 p2))) (v (v p0 10) p2) 4 (zor ((vu v (v (v p0 10) p1) 4 (zor (v (v (v p0 10) p1) 4) (zshl 1 p2))) (v (v p0 10) p2) 4) (zshl 1 p1)))) (fun u t => va_P (dC, dI) vwCl (xG L cid K N u) t.heap ∧ va_K (dC, dI) vwCl (xT cid) t ∧ va_D (va_A (xG L cid K N v) sz) (xG L cid K N u)) (va_A (xG L cid K N v) sz)) 0 0 (va_A (xG L cid K N v) sz) := by
  refine Met.ofW (cc := cX12_enemies) (maxL := 5) (ret := (some .boolean)) (by decide) rfl ?_
  intro p e s m args below meth c s₁ B hml hv
  obtain ⟨rfl, ⟨hsz, hP, hK, hD0⟩, hX⟩ := hv
  have hx := B.exec
  have hb := B.bytes
  have hr := B.returns
  have hts := atoms_spec (ws := (jk yX12_enemies cX12_enemies 5 (some .boolean))) B.pre
  have hj : ∀ w ∈ jw, w.before ([.ref p0.toNat, .int (iI p1), .int (iI p2)] : List Value).toArray s = true := fun w h => hts w (jm h)
  have hown : s.vm.findClass RX12 = some m.cls := findClass_of_methodNamed B.named
  subst hsz
  have hD := hD0.self (sz := s.heap.size)
  generalize hAe : (va_A (xG L cid K N v) s.heap.size) = A at hD hX ⊢
  have hA : ∀ q : Nat, s.heap.size ≤ q → A q := fun q h => by rw [← hAe]; exact Or.inr h
  have hS : va_S A s.heap s.heap [] := va_S.rf
  have hXa := hX
  have hP : va_P (dC, dI) vwCl (xG L cid K N v) s.heap := hP
  have hl := lv_entry ([.ref p0.toNat, .int (iI p1), .int (iI p2)]) (n := 5) (Nat.le_of_ble_eq_true rfl)
  rw [lg_entry_eq]
  generalize (lg_sl ([.ref p0.toNat, .int (iI p1), .int (iI p2)]) ++ List.replicate (5 - (lg_sl ([.ref p0.toNat, .int (iI p1), .int (iI p2)])).length) Slot.unset).toArray = ls at hl ⊢
  have hl : lv_has ls 5 [(0, .ref p0.toNat), (1, .int (iI p1)), (2, .int (iI p2))] := hl
  generalize hQ : MQ below (va_Qi (fun (r : Int32) (u : (Int → Int → Int)) => ∃ z : Int, r = iI z ∧ (xI L K N u) ∧ (fr K [(2, 4)] u v) ∧ (0 ≤ z ∧ z ≤ 1) ∧ ((z = 0) ∨ (z = 1 ∧ 0 ≤ p1 ∧ p1 < v p0 11 ∧ 0 ≤ p2 ∧ p2 < v p0 11 ∧ 0 ≤ v (v p0 10) p1 ∧ 0 ≤ v (v p0 10) p2 ∧ p1 ≠ p2)) ∧ (z = 1 → zand (zshr (v (v (v p0 10) p1) 4) p2) 1 = 0) ∧ (z = 0 → (p1 < 0 ∨ v p0 11 ≤ p1 ∨ p2 < 0 ∨ v p0 11 ≤ p2 ∨ v (v p0 10) p1 < 0 ∨ v (v p0 10) p2 < 0 ∨ p1 = p2 ∨ zand (zshr (v (v (v p0 10) p1) 4) p2) 1 ≠ 0)) ∧ (z = 0 → u = v) ∧ (z = 1 → u = vu (vu v (v (v p0 10) p1) 4 (zor (v (v (v p0 10) p1) 4) (zshl 1 p2))) (v (v p0 10) p2) 4 (zor ((vu v (v (v p0 10) p1) 4 (zor (v (v (v p0 10) p1) 4) (zshl 1 p2))) (v (v p0 10) p2) 4) (zshl 1 p1)))) (fun u t => va_P (dC, dI) vwCl (xG L cid K N u) t.heap ∧ va_K (dC, dI) vwCl (xT cid) t ∧ va_D A (xG L cid K N u)) A) ([.ref p0.toNat, .int (iI p1), .int (iI p2)] : List Value).toArray s 0 0 A = Q
  suffices ST : ∀ (H : Heap) (locs : List Loc), va_P (dC, dI) vwCl (xG L cid K N v) H → va_S A s.heap H locs → W p l e ({ frames := 1, cells := 0, slots := 0, locals := 21 }) s m ([.ref p0.toNat, .int (iI p1), .int (iI p2)] : List Value).toArray below meth c H locs 0 0 Q (F0 m 0 ls []) from ST _ _ hP hS
  clear hP hS
  intro H locs hP hS
  refine lv_aload_n hx hb dX12_enemies_0 rfl (lv_at hl 0 rfl) ?_
  refine lv_iload_n hx hb dX12_enemies_1 rfl (lv_at hl 1 rfl) ?_
  refine jc_q (va_runV (As := [.int (iI p1)]) (rest := []) ⟨hx, hb, hml, hown, hts⟩ (sX12_handAt l dC dI _ L cid K N tW sK sV v p0 p1 hI q0 (by omega)) (cwV 1 hts (jgoodV m_1056 m_1057 m_1058 m_873 m_1059) rfl rfl rfl (by decide +kernel) ⟨(Nat.le_of_ble_eq_true rfl), (Nat.le_of_ble_eq_true rfl)⟩) ⟨xP_blind, xrecv hK hP q0 rfl rfl, fun U hU hW => ⟨rfl, xP_of hU hW hP hK hD hX hS (fun _ h => h) hA⟩⟩ rfl rfl hl.1 rfl (lv_room (Nat.le_of_ble_eq_true rfl)) dX12_enemies_2 ⟨(Nat.le_of_ble_eq_true rfl), (Nat.le_of_ble_eq_true rfl)⟩) hP hS hA (fun r_1 H locs w_2 hP hS => ?_)
  obtain ⟨z_3, rfl, h_4, h_5⟩ := w_2
  have h_6 : 0 ≤ v p0 11 ∧ v p0 11 ≤ 12 := xf_12_11 hI q0
  have h_7 : ok L K (v p0 10) 38 := xf_12_10 hI q0
  have h_8 : N (v p0 10) = 12 := xn_38 hI h_7
  refine jt_q (rv z_3) rfl ?_
  refine xq_astore_n (i := 3) (lv' := [(3, rv z_3), (0, .ref p0.toNat), (1, .int (iI p1)), (2, .int (iI p2))]) hx hb dX12_enemies_5 rfl hl (by decide) rfl (fun ls hl => ?_)
  refine lv_aload_n hx hb dX12_enemies_6 rfl (lv_at hl 1 rfl) ?_
  refine lv_iload_n hx hb dX12_enemies_7 rfl (lv_at hl 3 rfl) ?_
  refine jc_q (va_runV (As := [.int (iI p2)]) (rest := []) ⟨hx, hb, hml, hown, hts⟩ (sX12_handAt l dC dI _ L cid K N tW sK sV v p0 p2 hI q0 (by omega)) (cwV 1 hts (jgoodV m_1056 m_1057 m_1058 m_873 m_1059) rfl rfl rfl (by decide +kernel) ⟨(Nat.le_of_ble_eq_true rfl), (Nat.le_of_ble_eq_true rfl)⟩) ⟨xP_blind, xrecv hK hP q0 rfl rfl, fun U hU hW => ⟨rfl, xP_of hU hW hP hK hD hX hS (fun _ h => h) hA⟩⟩ rfl rfl hl.1 rfl (lv_room (Nat.le_of_ble_eq_true rfl)) dX12_enemies_8 ⟨(Nat.le_of_ble_eq_true rfl), (Nat.le_of_ble_eq_true rfl)⟩) hP hS hA (fun r_9 H locs w_10 hP hS => ?_)
  obtain ⟨z_11, rfl, h_12, h_13⟩ := w_10
  refine jt_q (rv z_11) rfl ?_
  refine xq_astore (i := 4) (lv' := [(4, rv z_11), (3, rv z_3), (0, .ref p0.toNat), (1, .int (iI p1)), (2, .int (iI p2))]) hx hb dX12_enemies_11 hl (by decide) (by simp [rv_cat]) (fun ls hl => ?_)
  refine xq_aload_n hx hb dX12_enemies_13 rfl (lv_at hl 1 rfl) ?_
  refine xq_ifnull (tgt := 38) hx hb dX12_enemies_14 (by decide) (fun h_14 => ?_) (fun h_14 => ?_)
  · refine lv_iconst (v := iI 0) hx hb dX12_enemies_38 rfl ?_
    rw [← hQ]
    exact W.zret (v := iI 0) (ty := .boolean) hx hb hr (nb_bool (by omega) (by omega)) (fun t ht hW => ⟨⟨iI 0, v, rfl, ⟨0, rfl, hI, fr_rf, by omega, by omega, by intro hz9; first | (exfalso; omega) | (rw [← show z_3 = v (v p0 10) p1 by omega]; omega), by intro hz9; first | omega | (rw [← show z_3 = v (v p0 10) p1 by omega]; omega), by intro hz9; first | (exfalso; omega) | (rfl), by intro hz9; first | (exfalso; omega) | (rw [← show z_3 = v (v p0 10) p1 by omega, ← show z_11 = v (v p0 10) p2 by omega]; rfl)⟩, by rw [ht]; exact hP, va_K.moved hW.alike hK, hD⟩, hS.F ht⟩) hS.2.2 dX12_enemies_39
  · have h_15 : ok L K z_3 2 := h_4.resolve_left (by omega)
    refine xq_aload hx hb dX12_enemies_17 (lv_at hl 0 rfl) ?_
    refine xq_ifnull (tgt := 38) hx hb dX12_enemies_19 (by decide) (fun h_16 => ?_) (fun h_16 => ?_)
    · refine lv_iconst (v := iI 0) hx hb dX12_enemies_38 rfl ?_
      rw [← hQ]
      exact W.zret (v := iI 0) (ty := .boolean) hx hb hr (nb_bool (by omega) (by omega)) (fun t ht hW => ⟨⟨iI 0, v, rfl, ⟨0, rfl, hI, fr_rf, by omega, by omega, by intro hz9; first | (exfalso; omega) | (rw [← show z_3 = v (v p0 10) p1 by omega]; omega), by intro hz9; first | omega | (rw [← show z_3 = v (v p0 10) p1 by omega]; omega), by intro hz9; first | (exfalso; omega) | (rfl), by intro hz9; first | (exfalso; omega) | (rw [← show z_3 = v (v p0 10) p1 by omega, ← show z_11 = v (v p0 10) p2 by omega]; rfl)⟩, by rw [ht]; exact hP, va_K.moved hW.alike hK, hD⟩, hS.F ht⟩) hS.2.2 dX12_enemies_39
    · have h_17 : ok L K z_11 2 := h_12.resolve_left (by omega)
      refine lv_iload_n hx hb dX12_enemies_22 rfl (lv_at hl 3 rfl) ?_
      refine lv_iload_n hx hb dX12_enemies_23 rfl (lv_at hl 4 rfl) ?_
      refine xr_icmp_eq (tgt := 38) hx hb dX12_enemies_24 (by decide) (by omega) (by omega) (fun h_18 => ?_) (fun h_18 => ?_)
      · refine lv_iconst (v := iI 0) hx hb dX12_enemies_38 rfl ?_
        rw [← hQ]
        exact W.zret (v := iI 0) (ty := .boolean) hx hb hr (nb_bool (by omega) (by omega)) (fun t ht hW => ⟨⟨iI 0, v, rfl, ⟨0, rfl, hI, fr_rf, by omega, by omega, by intro hz9; first | (exfalso; omega) | (rw [← show z_3 = v (v p0 10) p1 by omega]; omega), by intro hz9; first | omega | (rw [← show z_3 = v (v p0 10) p1 by omega]; omega), by intro hz9; first | (exfalso; omega) | (rfl), by intro hz9; first | (exfalso; omega) | (rw [← show z_3 = v (v p0 10) p1 by omega, ← show z_11 = v (v p0 10) p2 by omega]; rfl)⟩, by rw [ht]; exact hP, va_K.moved hW.alike hK, hD⟩, hS.F ht⟩) hS.2.2 dX12_enemies_39
      · refine xq_aload_n hx hb dX12_enemies_27 rfl (lv_at hl 1 rfl) ?_
        refine jt_q (.ref z_3.toNat) (rv_ref (h_15).1) ?_
        have h_19 : (-2147483648) ≤ v z_3 4 ∧ v z_3 4 ≤ 2147483647 := xf_2_4 hI h_15
        refine gx_RX12_303 (y := v z_3 4) hx hb hj hown hK hP h_15 rfl dX12_enemies_28 ?_
        refine lv_iload_n hx hb dX12_enemies_31 rfl (lv_at hl 4 rfl) ?_
        refine lv_ishr hx hb dX12_enemies_32 ?_
        refine jt_i (iI (zshr (v z_3 4) p2)) (iI_of _) ?_
        have h_20 : rg (zshr (v z_3 4) p2) := rg_of _
        refine lv_iconst (v := iI 1) hx hb dX12_enemies_33 rfl ?_
        refine lv_iand hx hb dX12_enemies_34 ?_
        refine jt_i (iI (zand (zshr (v z_3 4) p2) 1)) (iI_of _) ?_
        have h_21 : rg (zand (zshr (v z_3 4) p2) 1) := rg_of _
        have h_22 : 0 ≤ zand (zshr (v z_3 4) p2) 1 ∧ zand (zshr (v z_3 4) p2) 1 ≤ 1 := zand_1 _
        refine xr_if_eq (tgt := 40) hx hb dX12_enemies_35 (by decide) (by omega) (fun h_23 => ?_) (fun h_23 => ?_)
        · refine xq_aload_n hx hb dX12_enemies_40 rfl (lv_at hl 1 rfl) ?_
          refine jt_q (.ref z_3.toNat) (rv_ref (h_15).1) ?_
          refine lv_dup hx hb dX12_enemies_41 rfl ?_
          refine gx_RX12_303 (y := v z_3 4) hx hb hj hown hK hP h_15 rfl dX12_enemies_42 ?_
          refine lv_iconst (v := iI 1) hx hb dX12_enemies_45 rfl ?_
          refine lv_iload_n hx hb dX12_enemies_46 rfl (lv_at hl 4 rfl) ?_
          refine lv_ishl hx hb dX12_enemies_47 ?_
          refine jt_i (iI (zshl 1 p2)) (iI_of _) ?_
          have h_24 : rg (zshl 1 p2) := rg_of _
          refine lv_ior hx hb dX12_enemies_48 ?_
          refine jt_i (iI (zor (v z_3 4) (zshl 1 p2))) (iI_of _) ?_
          have h_25 : rg (zor (v z_3 4) (zshl 1 p2)) := rg_of _
          refine px_RX12_303 (y := zor (v z_3 4) (zshl 1 p2)) hx hb hj hown hK hP hD hS hI h_15 ⟨by omega, by omega⟩ dX12_enemies_49 (fun v_26 H locs f_27 e_28 o_29 I_30 hP hD hS => ?_)
          refine xq_aload hx hb dX12_enemies_52 (lv_at hl 0 rfl) ?_
          refine jt_q (.ref z_11.toNat) (rv_ref (h_17).1) ?_
          refine lv_dup hx hb dX12_enemies_54 rfl ?_
          have h_31 : (-2147483648) ≤ v_26 z_11 4 ∧ v_26 z_11 4 ≤ 2147483647 := xf_2_4 I_30 h_17
          refine gx_RX12_303 (y := v_26 z_11 4) hx hb hj hown hK hP h_17 rfl dX12_enemies_55 ?_
          refine lv_iconst (v := iI 1) hx hb dX12_enemies_58 rfl ?_
          refine lv_iload_n hx hb dX12_enemies_59 rfl (lv_at hl 3 rfl) ?_
          refine lv_ishl hx hb dX12_enemies_60 ?_
          refine jt_i (iI (zshl 1 p1)) (iI_of _) ?_
          have h_32 : rg (zshl 1 p1) := rg_of _
          refine lv_ior hx hb dX12_enemies_61 ?_
          refine jt_i (iI (zor (v_26 z_11 4) (zshl 1 p1))) (iI_of _) ?_
          have h_33 : rg (zor (v_26 z_11 4) (zshl 1 p1)) := rg_of _
          refine px_RX12_303 (y := zor (v_26 z_11 4) (zshl 1 p1)) hx hb hj hown hK hP hD hS I_30 h_17 ⟨by omega, by omega⟩ dX12_enemies_62 (fun v_34 H locs f_35 e_36 o_37 I_38 hP hD hS => ?_)
          refine lv_iconst (v := iI 1) hx hb dX12_enemies_65 rfl ?_
          rw [← hQ]
          exact W.zret (v := iI 1) (ty := .boolean) hx hb hr (nb_bool (by omega) (by omega)) (fun t ht hW => ⟨⟨iI 1, v_34, rfl, ⟨1, rfl, I_38, (fr_tr f_35 rfl (fr_tr f_27 rfl fr_rf)), by omega, by omega, by intro hz9; first | (exfalso; omega) | (rw [← show z_3 = v (v p0 10) p1 by omega]; omega), by intro hz9; first | omega | (rw [← show z_3 = v (v p0 10) p1 by omega]; omega), by intro hz9; first | (exfalso; omega) | (rw [vu_of e_36 o_37]; rw [vu_of e_28 o_29]; first | done | (congr <;> omega)), by intro hz9; first | (exfalso; omega) | (rw [← show z_3 = v (v p0 10) p1 by omega, ← show z_11 = v (v p0 10) p2 by omega]; rw [vu_of e_36 o_37]; rw [vu_of e_28 o_29]; first | done | (congr <;> omega))⟩, by rw [ht]; exact hP, va_K.moved hW.alike hK, hD⟩, hS.F ht⟩) hS.2.2 dX12_enemies_66
        · refine lv_iconst (v := iI 0) hx hb dX12_enemies_38 rfl ?_
          rw [← hQ]
          exact W.zret (v := iI 0) (ty := .boolean) hx hb hr (nb_bool (by omega) (by omega)) (fun t ht hW => ⟨⟨iI 0, v, rfl, ⟨0, rfl, hI, fr_rf, by omega, by omega, by intro hz9; first | (exfalso; omega) | (rw [← show z_3 = v (v p0 10) p1 by omega]; omega), by intro hz9; first | omega | (rw [← show z_3 = v (v p0 10) p1 by omega]; omega), by intro hz9; first | (exfalso; omega) | (rfl), by intro hz9; first | (exfalso; omega) | (rw [← show z_3 = v (v p0 10) p1 by omega, ← show z_11 = v (v p0 10) p2 by omega]; rfl)⟩, by rw [ht]; exact hP, va_K.moved hW.alike hK, hD⟩, hS.F ht⟩) hS.2.2 dX12_enemies_39
set_option maxHeartbeats 2000000 in
set_option maxRecDepth 100000 in
theorem sX12_pointersTo (l : Launch) (dC : Nat → ClassId) (dI : Nat → Nat → Nat) (sz : Nat) (L : List Nat) (cid : Nat → ClassId) (K : Int → Nat) (N : Int → Int) (tW : Nat) (sK sV : Nat → Nat) (v : Int → Int → Int) (p0 : Int) (p1 : Int) (hI : xI L K N v) (q0 : ok L K p0 12) (q1 : rg p1) : Met l yX12_pointersTo (jk yX12_pointersTo cX12_pointersTo 5 (some .int)) ({ frames := 1, cells := 0, slots := 0, locals := 21 }) (va_Pc [.ref p0.toNat, .int (iI p1)] (xP (dC, dI) (xG L cid K N v) (xT cid) tW sK sV sz)) (va_Qi (fun (r : Int32) (_ : Unit) => ∃ z : Int, r = iI z ∧ (rg z)) (fun _ _ => True) (va_A [] sz)) 0 0 (va_A [] sz) := by
  refine Met.ofW (cc := cX12_pointersTo) (maxL := 5) (ret := (some .int)) (by decide) rfl ?_
  intro p e s m args below meth c s₁ B hml hv
  obtain ⟨rfl, ⟨hsz, hP, hK, hD0⟩, hX⟩ := hv
  have hx := B.exec
  have hb := B.bytes
  have hr := B.returns
  have hts := atoms_spec (ws := (jk yX12_pointersTo cX12_pointersTo 5 (some .int))) B.pre
  have hj : ∀ w ∈ jw, w.before ([.ref p0.toNat, .int (iI p1)] : List Value).toArray s = true := fun w h => hts w (jm h)
  have hown : s.vm.findClass RX12 = some m.cls := findClass_of_methodNamed B.named
  subst hsz
  have hDw := hD0.self (sz := s.heap.size)
  have hAA : ∀ q : Nat, s.heap.size ≤ q → va_A (xG L cid K N v) s.heap.size q := fun q h => Or.inr h
  have hAw : ∀ q, va_A [] s.heap.size q → va_A (xG L cid K N v) s.heap.size q := ja_nil va_S.rf hAA
  generalize hAe : (va_A [] s.heap.size) = A at hAw ⊢
  have hA : ∀ q : Nat, s.heap.size ≤ q → A q := fun q h => by rw [← hAe]; exact Or.inr h
  have hS : va_S A s.heap s.heap [] := va_S.rf
  have hXa := hX.nar hAw
  have hP : va_P (dC, dI) vwCl (xG L cid K N v) s.heap := hP
  have hl := lv_entry ([.ref p0.toNat, .int (iI p1)]) (n := 5) (Nat.le_of_ble_eq_true rfl)
  rw [lg_entry_eq]
  generalize (lg_sl ([.ref p0.toNat, .int (iI p1)]) ++ List.replicate (5 - (lg_sl ([.ref p0.toNat, .int (iI p1)])).length) Slot.unset).toArray = ls at hl ⊢
  have hl : lv_has ls 5 [(0, .ref p0.toNat), (1, .int (iI p1))] := hl
  generalize hQ : MQ below (va_Qi (fun (r : Int32) (_ : Unit) => ∃ z : Int, r = iI z ∧ (rg z)) (fun _ _ => True) A) ([.ref p0.toNat, .int (iI p1)] : List Value).toArray s 0 0 A = Q
  suffices ST : ∀ (H : Heap) (locs : List Loc), va_P (dC, dI) vwCl (xG L cid K N v) H → va_S A s.heap H locs → W p l e ({ frames := 1, cells := 0, slots := 0, locals := 21 }) s m ([.ref p0.toNat, .int (iI p1)] : List Value).toArray below meth c H locs 0 0 Q (F0 m 0 ls []) from ST _ _ hP hS
  clear hP hS
  intro H locs hP hS
  refine lv_iconst (v := iI 0) hx hb dX12_pointersTo_0 rfl ?_
  refine lv_istore_n (i := 2) (lv' := [(2, .int (iI 0)), (0, .ref p0.toNat), (1, .int (iI p1))]) hx hb dX12_pointersTo_1 rfl hl (by decide) rfl (fun ls hl => ?_)
  refine lv_iconst (v := iI 0) hx hb dX12_pointersTo_2 rfl ?_
  refine lv_istore_n (i := 3) (lv' := [(3, .int (iI 0)), (2, .int (iI 0)), (0, .ref p0.toNat), (1, .int (iI p1))]) hx hb dX12_pointersTo_3 rfl hl (by decide) rfl (fun ls hl => ?_)
  have L4 : ∀ (n4 : Nat) (a3_4 a2_4 : Int) (H : Heap) (locs : List Loc) (ls : Array Slot), (0 ≤ a3_4 ∧ a3_4 ≤ 2147483647) → ((-2147483648) ≤ a2_4 ∧ a2_4 ≤ 2147483647) → (0 < (n4 : Int) ∧ (v p0 7) - a3_4 < (n4 : Int)) → va_P (dC, dI) vwCl (xG L cid K N v) H → va_S A s.heap H locs → lv_has ls 5 [(3, .int (iI a3_4)), (2, .int (iI a2_4)), (0, .ref p0.toNat), (1, .int (iI p1))] → W p l e ({ frames := 1, cells := 0, slots := 0, locals := 21 }) s m ([.ref p0.toNat, .int (iI p1)] : List Value).toArray below meth c H locs 0 0 Q (F0 m 4 ls []) := by
    intro n4
    induction n4 with
    | zero =>
      intro a3_4 a2_4 H locs ls h_1 h_2 hm4 hP hS hl
      exfalso; omega
    | succ n4 ih4 =>
      intro a3_4 a2_4 H locs ls h_3 h_4 hm4 hP hS hl
      refine lv_iload_n hx hb dX12_pointersTo_4 rfl (lv_at hl 0 rfl) ?_
      refine lv_aload_n hx hb dX12_pointersTo_5 rfl (lv_at hl 2 rfl) ?_
      have h_5 : 0 ≤ v p0 7 ∧ v p0 7 ≤ 60 := xf_12_7 hI q0
      refine gx_RX12_203 (y := v p0 7) hx hb hj hown hK hP q0 rfl dX12_pointersTo_6 ?_
      refine xr_icmp_ge (tgt := 60) hx hb dX12_pointersTo_9 (by decide) (by omega) (by omega) (fun h_6 => ?_) (fun h_6 => ?_)
      · refine lv_iload_n hx hb dX12_pointersTo_60 rfl (lv_at hl 1 rfl) ?_
        rw [← hQ]
        exact W.iret (v := iI a2_4) hx hb hr (fun t ht hW => ⟨⟨iI a2_4, (), rfl, ⟨a2_4, rfl, by omega⟩, trivial⟩, hS.F ht⟩) hS.2.2 dX12_pointersTo_61
      · refine lv_aload_n hx hb dX12_pointersTo_12 rfl (lv_at hl 2 rfl) ?_
        refine lv_iload_n hx hb dX12_pointersTo_13 rfl (lv_at hl 0 rfl) ?_
        refine jc_q (va_runV (As := [.int (iI a3_4)]) (rest := []) ⟨hx, hb, hml, hown, hts⟩ (sX12_entryAt l dC dI _ L cid K N tW sK sV v p0 a3_4 hI q0 (by omega)) (cwV 1 hts (jgoodV m_870 m_871 m_872 m_873 m_874) rfl rfl rfl (by decide +kernel) ⟨(Nat.le_of_ble_eq_true rfl), (Nat.le_of_ble_eq_true rfl)⟩) ⟨xP_blind, xrecv hK hP q0 rfl rfl, fun U hU hW => ⟨rfl, xP_of hU hW hP hK hDw hX hS hAw hAA⟩⟩ rfl rfl hl.1 rfl (lv_room (Nat.le_of_ble_eq_true rfl)) dX12_pointersTo_14 ⟨(Nat.le_of_ble_eq_true rfl), (Nat.le_of_ble_eq_true rfl)⟩) hP hS hA (fun r_7 H locs w_8 hP hS => ?_)
        obtain ⟨z_9, rfl, h_10⟩ := w_8
        refine jt_q (rv z_9) rfl ?_
        refine xq_astore (i := 4) (lv' := [(4, rv z_9), (3, .int (iI a3_4)), (2, .int (iI a2_4)), (0, .ref p0.toNat), (1, .int (iI p1))]) hx hb dX12_pointersTo_17 hl (by decide) rfl (fun ls hl => ?_)
        refine xq_aload hx hb dX12_pointersTo_19 (lv_at hl 0 rfl) ?_
        have J54 : ∀ (a2_54 : Int) (H : Heap) (locs : List Loc) (ls : Array Slot), ((-2147483648) ≤ a2_54 ∧ a2_54 ≤ 2147483647) → va_P (dC, dI) vwCl (xG L cid K N v) H → va_S A s.heap H locs → lv_has ls 5 [(4, rv z_9), (3, .int (iI a3_4)), (2, .int (iI a2_54)), (0, .ref p0.toNat), (1, .int (iI p1))] → W p l e ({ frames := 1, cells := 0, slots := 0, locals := 21 }) s m ([.ref p0.toNat, .int (iI p1)] : List Value).toArray below meth c H locs 0 0 Q (F0 m 54 ls []) := by
          intro a2_54 H locs ls h_11 hP hS hl
          refine lv_iinc (v := iI (a3_4 + 1)) (lv' := [(3, .int (iI (a3_4 + 1))), (4, rv z_9), (2, .int (iI a2_54)), (0, .ref p0.toNat), (1, .int (iI p1))]) hx hb dX12_pointersTo_54 hl (k := 1) rfl (iI_add _ _) (by decide) rfl (fun ls hl => ?_)
          refine lv_goto (tgt := 4) hx hb dX12_pointersTo_57 (by decide) ?_
          exact ih4 (a3_4 + 1) a2_54 H locs ls (by omega) (by omega) (by omega) hP hS (lv_sub hl [0, 2, 3, 4] rfl)
        refine xq_ifnull (tgt := 54) hx hb dX12_pointersTo_21 (by decide) (fun h_12 => ?_) (fun h_12 => ?_)
        · exact J54 a2_4 H locs ls (by omega) hP hS hl
        · have h_13 : ok L K z_9 0 := h_10.resolve_left (by omega)
          refine xq_aload hx hb dX12_pointersTo_24 (lv_at hl 0 rfl) ?_
          refine jt_q (.ref z_9.toNat) (rv_ref (h_13).1) ?_
          have h_14 : (-2147483648) ≤ v z_9 1 ∧ v z_9 1 ≤ 2147483647 := xf_0_1 hI h_13
          refine gx_RX12_240 (y := v z_9 1) hx hb hj hown hK hP h_13 rfl dX12_pointersTo_26 ?_
          refine lv_iconst (v := iI 1) hx hb dX12_pointersTo_29 rfl ?_
          refine xr_icmp_ne (tgt := 54) hx hb dX12_pointersTo_30 (by decide) (by omega) (by omega) (fun h_15 => ?_) (fun h_15 => ?_)
          · exact J54 a2_4 H locs ls (by omega) hP hS hl
          · refine xq_aload hx hb dX12_pointersTo_33 (lv_at hl 0 rfl) ?_
            refine jt_q (.ref z_9.toNat) (rv_ref (h_13).1) ?_
            have h_16 : (-2147483648) ≤ v z_9 10 ∧ v z_9 10 ≤ 2147483647 := xf_0_10 hI h_13
            refine gx_RX12_193 (y := v z_9 10) hx hb hj hown hK hP h_13 rfl dX12_pointersTo_35 ?_
            refine lv_iload_n hx hb dX12_pointersTo_38 rfl (lv_at hl 4 rfl) ?_
            refine xr_icmp_ne (tgt := 54) hx hb dX12_pointersTo_39 (by decide) (by omega) (by omega) (fun h_17 => ?_) (fun h_17 => ?_)
            · exact J54 a2_4 H locs ls (by omega) hP hS hl
            · refine lv_aload_n hx hb dX12_pointersTo_42 rfl (lv_at hl 3 rfl) ?_
              refine xq_aload hx hb dX12_pointersTo_43 (lv_at hl 0 rfl) ?_
              refine jt_q (.ref z_9.toNat) (rv_ref (h_13).1) ?_
              refine jc_i (va_runV (As := [.ref z_9.toNat]) (rest := []) ⟨hx, hb, hml, hown, hts⟩ (sX12_isStruck l dC dI _ L cid K N tW sK sV v p0 z_9 hI q0 h_13) (cwV 1 hts (jgoodV m_1060 m_1061 m_1062 m_873 m_1063) rfl rfl rfl (by decide +kernel) ⟨(Nat.le_of_ble_eq_true rfl), (Nat.le_of_ble_eq_true rfl)⟩) ⟨xP_blind, xrecv hK hP q0 rfl rfl, fun U hU hW => ⟨rfl, xP_of hU hW hP hK hDw hX hS hAw hAA⟩⟩ rfl rfl hl.1 rfl (lv_room (Nat.le_of_ble_eq_true rfl)) dX12_pointersTo_45 ⟨(Nat.le_of_ble_eq_true rfl), (Nat.le_of_ble_eq_true rfl)⟩) hP hS hA (fun r_18 H locs w_19 hP hS => ?_)
              obtain ⟨z_20, rfl, h_21⟩ := w_19
              refine xr_if_ne (tgt := 54) hx hb dX12_pointersTo_48 (by decide) (by omega) (fun h_22 => ?_) (fun h_22 => ?_)
              · exact J54 a2_4 H locs ls (by omega) hP hS hl
              · refine lv_iinc (v := iI (a2_4 + 1)) (lv' := [(2, .int (iI (a2_4 + 1))), (4, rv z_9), (3, .int (iI a3_4)), (0, .ref p0.toNat), (1, .int (iI p1))]) hx hb dX12_pointersTo_51 hl (k := 2) rfl (iI_add _ _) (by decide) rfl (fun ls hl => ?_)
                obtain ⟨z_23, h_24, h_25, e9⟩ := xr_keep (a2_4 + 1)
                rw [e9] at hl
                exact J54 z_23 H locs ls (by omega) hP hS (lv_sub hl [1, 2, 0, 3, 4] rfl)
  exact L4 ((((v p0 7) - 0 : Int)).toNat + 1) 0 0 H locs ls (by omega) (by omega) (by omega) hP hS hl
set_option maxHeartbeats 2000000 in
set_option maxRecDepth 100000 in
theorem sX12_unfinished (l : Launch) (dC : Nat → ClassId) (dI : Nat → Nat → Nat) (sz : Nat) (L : List Nat) (cid : Nat → ClassId) (K : Int → Nat) (N : Int → Int) (tW : Nat) (sK sV : Nat → Nat) (v : Int → Int → Int) (p0 : Int) (p1 : Int) (hI : xI L K N v) (q0 : ok L K p0 12) (q1 : rg p1) : Met l yX12_unfinished (jk yX12_unfinished cX12_unfinished 5 (some .int)) ({ frames := 1, cells := 0, slots := 0, locals := 21 }) (va_Pc [.ref p0.toNat, .int (iI p1)] (xP (dC, dI) (xG L cid K N v) (xT cid) tW sK sV sz)) (va_Qi (fun (r : Int32) (_ : Unit) => ∃ z : Int, r = iI z ∧ (rg z)) (fun _ _ => True) (va_A [] sz)) 0 0 (va_A [] sz) := by
  refine Met.ofW (cc := cX12_unfinished) (maxL := 5) (ret := (some .int)) (by decide) rfl ?_
  intro p e s m args below meth c s₁ B hml hv
  obtain ⟨rfl, ⟨hsz, hP, hK, hD0⟩, hX⟩ := hv
  have hx := B.exec
  have hb := B.bytes
  have hr := B.returns
  have hts := atoms_spec (ws := (jk yX12_unfinished cX12_unfinished 5 (some .int))) B.pre
  have hj : ∀ w ∈ jw, w.before ([.ref p0.toNat, .int (iI p1)] : List Value).toArray s = true := fun w h => hts w (jm h)
  have hown : s.vm.findClass RX12 = some m.cls := findClass_of_methodNamed B.named
  subst hsz
  have hDw := hD0.self (sz := s.heap.size)
  have hAA : ∀ q : Nat, s.heap.size ≤ q → va_A (xG L cid K N v) s.heap.size q := fun q h => Or.inr h
  have hAw : ∀ q, va_A [] s.heap.size q → va_A (xG L cid K N v) s.heap.size q := ja_nil va_S.rf hAA
  generalize hAe : (va_A [] s.heap.size) = A at hAw ⊢
  have hA : ∀ q : Nat, s.heap.size ≤ q → A q := fun q h => by rw [← hAe]; exact Or.inr h
  have hS : va_S A s.heap s.heap [] := va_S.rf
  have hXa := hX.nar hAw
  have hP : va_P (dC, dI) vwCl (xG L cid K N v) s.heap := hP
  have hl := lv_entry ([.ref p0.toNat, .int (iI p1)]) (n := 5) (Nat.le_of_ble_eq_true rfl)
  rw [lg_entry_eq]
  generalize (lg_sl ([.ref p0.toNat, .int (iI p1)]) ++ List.replicate (5 - (lg_sl ([.ref p0.toNat, .int (iI p1)])).length) Slot.unset).toArray = ls at hl ⊢
  have hl : lv_has ls 5 [(0, .ref p0.toNat), (1, .int (iI p1))] := hl
  generalize hQ : MQ below (va_Qi (fun (r : Int32) (_ : Unit) => ∃ z : Int, r = iI z ∧ (rg z)) (fun _ _ => True) A) ([.ref p0.toNat, .int (iI p1)] : List Value).toArray s 0 0 A = Q
  suffices ST : ∀ (H : Heap) (locs : List Loc), va_P (dC, dI) vwCl (xG L cid K N v) H → va_S A s.heap H locs → W p l e ({ frames := 1, cells := 0, slots := 0, locals := 21 }) s m ([.ref p0.toNat, .int (iI p1)] : List Value).toArray below meth c H locs 0 0 Q (F0 m 0 ls []) from ST _ _ hP hS
  clear hP hS
  intro H locs hP hS
  refine lv_iconst (v := iI 0) hx hb dX12_unfinished_0 rfl ?_
  refine lv_istore_n (i := 2) (lv' := [(2, .int (iI 0)), (0, .ref p0.toNat), (1, .int (iI p1))]) hx hb dX12_unfinished_1 rfl hl (by decide) rfl (fun ls hl => ?_)
  refine lv_iconst (v := iI 0) hx hb dX12_unfinished_2 rfl ?_
  refine lv_istore_n (i := 3) (lv' := [(3, .int (iI 0)), (2, .int (iI 0)), (0, .ref p0.toNat), (1, .int (iI p1))]) hx hb dX12_unfinished_3 rfl hl (by decide) rfl (fun ls hl => ?_)
  have L4 : ∀ (n4 : Nat) (a3_4 a2_4 : Int) (H : Heap) (locs : List Loc) (ls : Array Slot), (0 ≤ a3_4 ∧ a3_4 ≤ 2147483647) → ((-2147483648) ≤ a2_4 ∧ a2_4 ≤ 2147483647) → (0 < (n4 : Int) ∧ (v p0 7) - a3_4 < (n4 : Int)) → va_P (dC, dI) vwCl (xG L cid K N v) H → va_S A s.heap H locs → lv_has ls 5 [(3, .int (iI a3_4)), (2, .int (iI a2_4)), (0, .ref p0.toNat), (1, .int (iI p1))] → W p l e ({ frames := 1, cells := 0, slots := 0, locals := 21 }) s m ([.ref p0.toNat, .int (iI p1)] : List Value).toArray below meth c H locs 0 0 Q (F0 m 4 ls []) := by
    intro n4
    induction n4 with
    | zero =>
      intro a3_4 a2_4 H locs ls h_1 h_2 hm4 hP hS hl
      exfalso; omega
    | succ n4 ih4 =>
      intro a3_4 a2_4 H locs ls h_3 h_4 hm4 hP hS hl
      refine lv_iload_n hx hb dX12_unfinished_4 rfl (lv_at hl 0 rfl) ?_
      refine lv_aload_n hx hb dX12_unfinished_5 rfl (lv_at hl 2 rfl) ?_
      have h_5 : 0 ≤ v p0 7 ∧ v p0 7 ≤ 60 := xf_12_7 hI q0
      refine gx_RX12_203 (y := v p0 7) hx hb hj hown hK hP q0 rfl dX12_unfinished_6 ?_
      refine xr_icmp_ge (tgt := 42) hx hb dX12_unfinished_9 (by decide) (by omega) (by omega) (fun h_6 => ?_) (fun h_6 => ?_)
      · refine lv_iload_n hx hb dX12_unfinished_42 rfl (lv_at hl 1 rfl) ?_
        rw [← hQ]
        exact W.iret (v := iI a2_4) hx hb hr (fun t ht hW => ⟨⟨iI a2_4, (), rfl, ⟨a2_4, rfl, by omega⟩, trivial⟩, hS.F ht⟩) hS.2.2 dX12_unfinished_43
      · refine lv_aload_n hx hb dX12_unfinished_12 rfl (lv_at hl 2 rfl) ?_
        refine lv_iload_n hx hb dX12_unfinished_13 rfl (lv_at hl 0 rfl) ?_
        refine jc_q (va_runV (As := [.int (iI a3_4)]) (rest := []) ⟨hx, hb, hml, hown, hts⟩ (sX12_entryAt l dC dI _ L cid K N tW sK sV v p0 a3_4 hI q0 (by omega)) (cwV 1 hts (jgoodV m_870 m_871 m_872 m_873 m_874) rfl rfl rfl (by decide +kernel) ⟨(Nat.le_of_ble_eq_true rfl), (Nat.le_of_ble_eq_true rfl)⟩) ⟨xP_blind, xrecv hK hP q0 rfl rfl, fun U hU hW => ⟨rfl, xP_of hU hW hP hK hDw hX hS hAw hAA⟩⟩ rfl rfl hl.1 rfl (lv_room (Nat.le_of_ble_eq_true rfl)) dX12_unfinished_14 ⟨(Nat.le_of_ble_eq_true rfl), (Nat.le_of_ble_eq_true rfl)⟩) hP hS hA (fun r_7 H locs w_8 hP hS => ?_)
        obtain ⟨z_9, rfl, h_10⟩ := w_8
        refine jt_q (rv z_9) rfl ?_
        refine xq_astore (i := 4) (lv' := [(4, rv z_9), (3, .int (iI a3_4)), (2, .int (iI a2_4)), (0, .ref p0.toNat), (1, .int (iI p1))]) hx hb dX12_unfinished_17 hl (by decide) rfl (fun ls hl => ?_)
        refine xq_aload hx hb dX12_unfinished_19 (lv_at hl 0 rfl) ?_
        have J36 : ∀ (a2_36 : Int) (H : Heap) (locs : List Loc) (ls : Array Slot), ((-2147483648) ≤ a2_36 ∧ a2_36 ≤ 2147483647) → va_P (dC, dI) vwCl (xG L cid K N v) H → va_S A s.heap H locs → lv_has ls 5 [(4, rv z_9), (3, .int (iI a3_4)), (2, .int (iI a2_36)), (0, .ref p0.toNat), (1, .int (iI p1))] → W p l e ({ frames := 1, cells := 0, slots := 0, locals := 21 }) s m ([.ref p0.toNat, .int (iI p1)] : List Value).toArray below meth c H locs 0 0 Q (F0 m 36 ls []) := by
          intro a2_36 H locs ls h_11 hP hS hl
          refine lv_iinc (v := iI (a3_4 + 1)) (lv' := [(3, .int (iI (a3_4 + 1))), (4, rv z_9), (2, .int (iI a2_36)), (0, .ref p0.toNat), (1, .int (iI p1))]) hx hb dX12_unfinished_36 hl (k := 1) rfl (iI_add _ _) (by decide) rfl (fun ls hl => ?_)
          refine lv_goto (tgt := 4) hx hb dX12_unfinished_39 (by decide) ?_
          exact ih4 (a3_4 + 1) a2_36 H locs ls (by omega) (by omega) (by omega) hP hS (lv_sub hl [0, 2, 3, 4] rfl)
        refine xq_ifnull (tgt := 36) hx hb dX12_unfinished_21 (by decide) (fun h_12 => ?_) (fun h_12 => ?_)
        · exact J36 a2_4 H locs ls (by omega) hP hS hl
        · have h_13 : ok L K z_9 0 := h_10.resolve_left (by omega)
          refine xq_aload hx hb dX12_unfinished_24 (lv_at hl 0 rfl) ?_
          refine jt_q (.ref z_9.toNat) (rv_ref (h_13).1) ?_
          refine lv_iload_n hx hb dX12_unfinished_26 rfl (lv_at hl 4 rfl) ?_
          refine jc_i (va_runV (As := [.int (iI p1)]) (rest := []) ⟨hx, hb, hml, hown, hts⟩ (sX0_isUnfinishedOf l dC dI _ L cid K N tW sK sV v z_9 p1 hI h_13 (by omega)) (cwV 1 hts (jgoodV m_1064 m_1065 m_1066 m_666 m_1067) rfl rfl rfl (by decide +kernel) ⟨(Nat.le_of_ble_eq_true rfl), (Nat.le_of_ble_eq_true rfl)⟩) ⟨xP_blind, xrecv hK hP h_13 rfl rfl, fun U hU hW => ⟨rfl, xP_of hU hW hP hK hDw hX hS hAw hAA⟩⟩ rfl rfl hl.1 rfl (lv_room (Nat.le_of_ble_eq_true rfl)) dX12_unfinished_27 ⟨(Nat.le_of_ble_eq_true rfl), (Nat.le_of_ble_eq_true rfl)⟩) hP hS hA (fun r_14 H locs w_15 hP hS => ?_)
          obtain ⟨z_16, rfl, h_17⟩ := w_15
          refine xr_if_eq (tgt := 36) hx hb dX12_unfinished_30 (by decide) (by omega) (fun h_18 => ?_) (fun h_18 => ?_)
          · exact J36 a2_4 H locs ls (by omega) hP hS hl
          · refine lv_iinc (v := iI (a2_4 + 1)) (lv' := [(2, .int (iI (a2_4 + 1))), (4, rv z_9), (3, .int (iI a3_4)), (0, .ref p0.toNat), (1, .int (iI p1))]) hx hb dX12_unfinished_33 hl (k := 2) rfl (iI_add _ _) (by decide) rfl (fun ls hl => ?_)
            obtain ⟨z_19, h_20, h_21, e9⟩ := xr_keep (a2_4 + 1)
            rw [e9] at hl
            exact J36 z_19 H locs ls (by omega) hP hS (lv_sub hl [1, 2, 0, 3, 4] rfl)
  exact L4 ((((v p0 7) - 0 : Int)).toNat + 1) 0 0 H locs ls (by omega) (by omega) (by omega) hP hS hl
