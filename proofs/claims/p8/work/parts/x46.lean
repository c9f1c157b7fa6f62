set_option maxHeartbeats 2000000 in
set_option maxRecDepth 100000 in
theorem sX12_handAt (l : Launch) (dC : Nat → ClassId) (dI : Nat → Nat → Nat) (sz : Nat) (L : List Nat) (cid : Nat → ClassId) (K : Int → Nat) (N : Int → Int) (tW : Nat) (sK sV : Nat → Nat) (v : Int → Int → Int) (p0 : Int) (p1 : Int) (hI : xI L K N v) (q0 : ok L K p0 12) (q1 : rg p1) : Met l yX12_handAt (jk yX12_handAt cX12_handAt 2 (some (.object "BookOfAll$Hand"))) ({ frames := 0, cells := 0, slots := 0, locals := 0 }) (va_Pc [.ref p0.toNat, .int (iI p1)] (xP (dC, dI) (xG L cid K N v) (xT cid) tW sK sV sz)) (va_Qq (fun (r : Option Nat) (_ : Unit) => ∃ z : Int, r = opt z ∧ (z < 0 ∨ ok L K z 2)) (fun _ _ => True) (va_A [] sz)) 0 0 (va_A [] sz) := by
  refine Met.ofW (cc := cX12_handAt) (maxL := 2) (ret := (some (.object "BookOfAll$Hand"))) (by decide) rfl ?_
  intro p e s m args below meth c s₁ B hml hv
  obtain ⟨rfl, ⟨hsz, hP, hK, hD0⟩, hX⟩ := hv
  have hx := B.exec
  have hb := B.bytes
  have hr := B.returns
  have hts := atoms_spec (ws := (jk yX12_handAt cX12_handAt 2 (some (.object "BookOfAll$Hand")))) B.pre
  have hj : ∀ w ∈ jw, w.before ([.ref p0.toNat, .int (iI p1)] : List Value).toArray s = true := fun w h => hts w (jm h)
  have hown : s.vm.findClass RX12 = some m.cls := findClass_of_methodNamed B.named
  subst hsz
  have hDw := hD0.self (sz := s.heap.size)
  have hAA : ∀ q : Nat, s.heap.size ≤ q → va_A (xG L cid K N v) s.heap.size q := fun q h => Or.inr h
  have hAw : ∀ q, va_A [] s.heap.size q → va_A (xG L cid K N v) s.heap.size q := ja_nil va_S.rf hAA
  generalize hAe : (va_A [] s.heap.size) = A at hAw ⊢
  have hA : ∀ q : Nat, s.heap.size ≤ q → A q := fun q h => by rw [← hAe]; exact Or.inr h
  have hS : va_S A s.heap s.heap [] := va_S.rf
  have hXa := hX.nar hAw
  have hP : va_P (dC, dI) vwCl (xG L cid K N v) s.heap := hP
  have hl := lv_entry ([.ref p0.toNat, .int (iI p1)]) (n := 2) (Nat.le_of_ble_eq_true rfl)
  rw [lg_entry_eq]
  generalize (lg_sl ([.ref p0.toNat, .int (iI p1)]) ++ List.replicate (2 - (lg_sl ([.ref p0.toNat, .int (iI p1)])).length) Slot.unset).toArray = ls at hl ⊢
  have hl : lv_has ls 2 [(0, .ref p0.toNat), (1, .int (iI p1))] := hl
  generalize hQ : MQ below (va_Qq (fun (r : Option Nat) (_ : Unit) => ∃ z : Int, r = opt z ∧ (z < 0 ∨ ok L K z 2)) (fun _ _ => True) A) ([.ref p0.toNat, .int (iI p1)] : List Value).toArray s 0 0 A = Q
  suffices ST : ∀ (H : Heap) (locs : List Loc), va_P (dC, dI) vwCl (xG L cid K N v) H → va_S A s.heap H locs → W p l e ({ frames := 0, cells := 0, slots := 0, locals := 0 }) s m ([.ref p0.toNat, .int (iI p1)] : List Value).toArray below meth c H locs 0 0 Q (F0 m 0 ls []) from ST _ _ hP hS
  clear hP hS
  intro H locs hP hS
  refine lv_iload_n hx hb dX12_handAt_0 rfl (lv_at hl 1 rfl) ?_
  refine xr_if_lt (tgt := 27) hx hb dX12_handAt_1 (by decide) (by omega) (fun h_1 => ?_) (fun h_1 => ?_)
  · refine lv_null hx hb dX12_handAt_27 ?_
    refine jt_q (rv (-1)) rv_nul ?_
    rw [← hQ]
    exact W.aret (v := rv (-1)) hx hb hr (Or.inl ⟨_, rfl⟩) (rv_or (-1)) (fun t ht hW => ⟨⟨opt (-1), (), rfl, ⟨-1, rfl, (Or.inl (by decide))⟩, trivial⟩, hS.F ht⟩) hS.2.2 dX12_handAt_28
  · refine lv_iload_n hx hb dX12_handAt_4 rfl (lv_at hl 1 rfl) ?_
    refine lv_aload_n hx hb dX12_handAt_5 rfl (lv_at hl 0 rfl) ?_
    have h_2 : 0 ≤ v p0 11 ∧ v p0 11 ≤ 12 := xf_12_11 hI q0
    refine gx_RX12_292 (y := v p0 11) hx hb hj hown hK hP q0 rfl dX12_handAt_6 ?_
    refine xr_icmp_ge (tgt := 27) hx hb dX12_handAt_9 (by decide) (by omega) (by omega) (fun h_3 => ?_) (fun h_3 => ?_)
    · refine lv_null hx hb dX12_handAt_27 ?_
      refine jt_q (rv (-1)) rv_nul ?_
      rw [← hQ]
      exact W.aret (v := rv (-1)) hx hb hr (Or.inl ⟨_, rfl⟩) (rv_or (-1)) (fun t ht hW => ⟨⟨opt (-1), (), rfl, ⟨-1, rfl, (Or.inl (by decide))⟩, trivial⟩, hS.F ht⟩) hS.2.2 dX12_handAt_28
    · refine lv_iload_n hx hb dX12_handAt_12 rfl (lv_at hl 1 rfl) ?_
      refine lv_bipush (v := iI 12) hx hb dX12_handAt_13 rfl ?_
      refine xr_icmp_ge (tgt := 27) hx hb dX12_handAt_15 (by decide) (by omega) (by omega) (fun h_4 => ?_) (fun h_4 => ?_)
      · exfalso; omega
      · refine lv_aload_n hx hb dX12_handAt_18 rfl (lv_at hl 0 rfl) ?_
        have h_5 : ok L K (v p0 10) 38 := xf_12_10 hI q0
        have h_6 : N (v p0 10) = 12 := xn_38 hI h_5
        refine gx_RX12_53 (y := v p0 10) hx hb hj hown hK hP q0 ((xf_12_10 hI q0).1) rfl dX12_handAt_19 ?_
        refine lv_iload_n hx hb dX12_handAt_22 rfl (lv_at hl 1 rfl) ?_
        have h_7 : v (v p0 10) p1 < 0 ∨ ok L K (v (v p0 10) p1) 2 := xe_38 hI h_5 (by omega)
        refine ax_38 (y := v (v p0 10) p1) hx hb hK hP h_5 (by omega) (by omega) (by omega) rfl dX12_handAt_23 ?_
        refine lv_goto (tgt := 28) hx hb dX12_handAt_24 (by decide) ?_
        rw [← hQ]
        exact W.aret (v := rv (v (v p0 10) p1)) hx hb hr (Or.inl ⟨_, rfl⟩) (rv_or (v (v p0 10) p1)) (fun t ht hW => ⟨⟨opt (v (v p0 10) p1), (), rfl, ⟨v (v p0 10) p1, rfl, h_7⟩, trivial⟩, hS.F ht⟩) hS.2.2 dX12_handAt_28
set_option maxHeartbeats 2000000 in
set_option maxRecDepth 100000 in
theorem sX12_livingHandAt (l : Launch) (dC : Nat → ClassId) (dI : Nat → Nat → Nat) (sz : Nat) (L : List Nat) (cid : Nat → ClassId) (K : Int → Nat) (N : Int → Int) (tW : Nat) (sK sV : Nat → Nat) (v : Int → Int → Int) (p0 : Int) (p1 : Int) (hI : xI L K N v) (q0 : ok L K p0 12) (q1 : rg p1) : Met l yX12_livingHandAt (jk yX12_livingHandAt cX12_livingHandAt 3 (some (.object "BookOfAll$Hand"))) ({ frames := 1, cells := 0, slots := 0, locals := 21 }) (va_Pc [.ref p0.toNat, .int (iI p1)] (xP (dC, dI) (xG L cid K N v) (xT cid) tW sK sV sz)) (va_Qq (fun (r : Option Nat) (_ : Unit) => ∃ z : Int, r = opt z ∧ (z < 0 ∨ ok L K z 2)) (fun _ _ => True) (va_A [] sz)) 0 0 (va_A [] sz) := by
  refine Met.ofW (cc := cX12_livingHandAt) (maxL := 3) (ret := (some (.object "BookOfAll$Hand"))) (by decide) rfl ?_
  intro p e s m args below meth c s₁ B hml hv
  obtain ⟨rfl, ⟨hsz, hP, hK, hD0⟩, hX⟩ := hv
  have hx := B.exec
  have hb := B.bytes
  have hr := B.returns
  have hts := atoms_spec (ws := (jk yX12_livingHandAt cX12_livingHandAt 3 (some (.object "BookOfAll$Hand")))) B.pre
  have hj : ∀ w ∈ jw, w.before ([.ref p0.toNat, .int (iI p1)] : List Value).toArray s = true := fun w h => hts w (jm h)
  have hown : s.vm.findClass RX12 = some m.cls := findClass_of_methodNamed B.named
  subst hsz
  have hDw := hD0.self (sz := s.heap.size)
  have hAA : ∀ q : Nat, s.heap.size ≤ q → va_A (xG L cid K N v) s.heap.size q := fun q h => Or.inr h
  have hAw : ∀ q, va_A [] s.heap.size q → va_A (xG L cid K N v) s.heap.size q := ja_nil va_S.rf hAA
  generalize hAe : (va_A [] s.heap.size) = A at hAw ⊢
  have hA : ∀ q : Nat, s.heap.size ≤ q → A q := fun q h => by rw [← hAe]; exact Or.inr h
  have hS : va_S A s.heap s.heap [] := va_S.rf
  have hXa := hX.nar hAw
  have hP : va_P (dC, dI) vwCl (xG L cid K N v) s.heap := hP
  have hl := lv_entry ([.ref p0.toNat, .int (iI p1)]) (n := 3) (Nat.le_of_ble_eq_true rfl)
  rw [lg_entry_eq]
  generalize (lg_sl ([.ref p0.toNat, .int (iI p1)]) ++ List.replicate (3 - (lg_sl ([.ref p0.toNat, .int (iI p1)])).length) Slot.unset).toArray = ls at hl ⊢
  have hl : lv_has ls 3 [(0, .ref p0.toNat), (1, .int (iI p1))] := hl
  generalize hQ : MQ below (va_Qq (fun (r : Option Nat) (_ : Unit) => ∃ z : Int, r = opt z ∧ (z < 0 ∨ ok L K z 2)) (fun _ _ => True) A) ([.ref p0.toNat, .int (iI p1)] : List Value).toArray s 0 0 A = Q
  suffices ST : ∀ (H : Heap) (locs : List Loc), va_P (dC, dI) vwCl (xG L cid K N v) H → va_S A s.heap H locs → W p l e ({ frames := 1, cells := 0, slots := 0, locals := 21 }) s m ([.ref p0.toNat, .int (iI p1)] : List Value).toArray below meth c H locs 0 0 Q (F0 m 0 ls []) from ST _ _ hP hS
  clear hP hS
  intro H locs hP hS
  refine lv_aload_n hx hb dX12_livingHandAt_0 rfl (lv_at hl 0 rfl) ?_
  refine lv_iload_n hx hb dX12_livingHandAt_1 rfl (lv_at hl 1 rfl) ?_
  refine jc_q (va_runV (As := [.int (iI p1)]) (rest := []) ⟨hx, hb, hml, hown, hts⟩ (sX12_handAt l dC dI _ L cid K N tW sK sV v p0 p1 hI q0 (by omega)) (cwV 1 hts (jgoodV m_1056 m_1057 m_1058 m_873 m_1059) rfl rfl rfl (by decide +kernel) ⟨(Nat.le_of_ble_eq_true rfl), (Nat.le_of_ble_eq_true rfl)⟩) ⟨xP_blind, xrecv hK hP q0 rfl rfl, fun U hU hW => ⟨rfl, xP_of hU hW hP hK hDw hX hS hAw hAA⟩⟩ rfl rfl hl.1 rfl (lv_room (Nat.le_of_ble_eq_true rfl)) dX12_livingHandAt_2 ⟨(Nat.le_of_ble_eq_true rfl), (Nat.le_of_ble_eq_true rfl)⟩) hP hS hA (fun r_1 H locs w_2 hP hS => ?_)
  obtain ⟨z_3, rfl, h_4⟩ := w_2
  refine jt_q (rv z_3) rfl ?_
  refine xq_astore_n (i := 2) (lv' := [(2, rv z_3), (0, .ref p0.toNat), (1, .int (iI p1))]) hx hb dX12_livingHandAt_5 rfl hl (by decide) rfl (fun ls hl => ?_)
  refine xq_aload_n hx hb dX12_livingHandAt_6 rfl (lv_at hl 0 rfl) ?_
  refine xq_ifnull (tgt := 21) hx hb dX12_livingHandAt_7 (by decide) (fun h_5 => ?_) (fun h_5 => ?_)
  · refine lv_null hx hb dX12_livingHandAt_21 ?_
    refine jt_q (rv (-1)) rv_nul ?_
    rw [← hQ]
    exact W.aret (v := rv (-1)) hx hb hr (Or.inl ⟨_, rfl⟩) (rv_or (-1)) (fun t ht hW => ⟨⟨opt (-1), (), rfl, ⟨-1, rfl, (Or.inl (by decide))⟩, trivial⟩, hS.F ht⟩) hS.2.2 dX12_livingHandAt_22
  · have h_6 : ok L K z_3 2 := h_4.resolve_left (by omega)
    refine xq_aload_n hx hb dX12_livingHandAt_10 rfl (lv_at hl 0 rfl) ?_
    refine jt_q (.ref z_3.toNat) (rv_ref (h_6).1) ?_
    have h_7 : 0 ≤ v z_3 3 ∧ v z_3 3 ≤ 1 := xf_2_3 hI h_6
    refine gx_RX12_300 (y := v z_3 3) hx hb hj hown hK hP h_6 rfl dX12_livingHandAt_11 ?_
    refine xr_if_eq (tgt := 21) hx hb dX12_livingHandAt_14 (by decide) (by omega) (fun h_8 => ?_) (fun h_8 => ?_)
    · refine lv_null hx hb dX12_livingHandAt_21 ?_
      refine jt_q (rv (-1)) rv_nul ?_
      rw [← hQ]
      exact W.aret (v := rv (-1)) hx hb hr (Or.inl ⟨_, rfl⟩) (rv_or (-1)) (fun t ht hW => ⟨⟨opt (-1), (), rfl, ⟨-1, rfl, (Or.inl (by decide))⟩, trivial⟩, hS.F ht⟩) hS.2.2 dX12_livingHandAt_22
    · refine xq_aload_n hx hb dX12_livingHandAt_17 rfl (lv_at hl 0 rfl) ?_
      refine jt_q (.ref z_3.toNat) (rv_ref (h_6).1) ?_
      refine lv_goto (tgt := 22) hx hb dX12_livingHandAt_18 (by decide) ?_
      rw [← hQ]
      refine jt_q (rv z_3) (rv_ref (h_6).1).symm ?_
      exact W.aret (v := rv z_3) hx hb hr (Or.inl ⟨_, rfl⟩) (rv_or z_3) (fun t ht hW => ⟨⟨opt z_3, (), rfl, ⟨z_3, rfl, (Or.inr h_6)⟩, trivial⟩, hS.F ht⟩) hS.2.2 dX12_livingHandAt_22
set_option maxHeartbeats 2000000 in
set_option maxRecDepth 100000 in
theorem sX12_enemies (l : Launch) (dC : Nat → ClassId) (dI : Nat → Nat → Nat) (sz : Nat) (L : List Nat) (cid : Nat → ClassId) (K : Int → Nat) (N : Int → Int) (tW : Nat) (sK sV : Nat → Nat) (v : Int → Int → Int) (p0 : Int) (p1 : Int) (p2 : Int) (hI : xI L K N v) (q0 : ok L K p0 12) (q1 : rg p1) (q2 : rg p2) : Met l yX12_enemies (jk yX12_enemies cX12_enemies 5 (some .boolean)) ({ frames := 1, cells := 0, slots := 0, locals := 21 }) (va_Pc [.ref p0.toNat, .int (iI p1), .int (iI p2)] (xP (dC, dI) (xG L cid K N v) (xT cid) tW sK sV sz)) (va_Qi (fun (r : Int32) (u : (Int → Int → Int)) => ∃ z : Int, r = iI z ∧ (xI L K N u) ∧ (fr K [(2, 4)] u v) ∧ (0 ≤ z ∧ z ≤ 1)) (fun u t => va_P (dC, dI) vwCl (xG L cid K N u) t.heap ∧ va_K (dC, dI) vwCl (xT cid) t ∧ va_D (va_A (xG L cid K N v) sz) (xG L cid K N u)) (va_A (xG L cid K N v) sz)) 0 0 (va_A (xG L cid K N v) sz) := by
  refine Met.ofW (cc := cX12_enemies) (maxL := 5) (ret := (some .boolean)) (by decide) rfl ?_
  intro p e s m args below meth c s₁ B hml hv
  obtain ⟨rfl, ⟨hsz, hP, hK, hD0⟩, hX⟩ := hv
  have hx := B.exec
  have hb := B.bytes
  have hr := B.returns
  have hts := atoms_spec (ws := (jk yX12_enemies cX12_enemies 5 (some .boolean))) B.pre
  have hj : ∀ w ∈ jw, w.before ([.ref p0.toNat, .int (iI p1), .int (iI p2)] : List Value).toArray s = true := fun w h => hts w (jm h)
  have hown : s.vm.findClass RX12 = some m.cls := findClass_of_methodNamed B.named
  subst hsz
  have hD := hD0.self (sz := s.heap.size)
  generalize hAe : (va_A (xG L cid K N v) s.heap.size) = A at hD hX ⊢
  have hA : ∀ q : Nat, s.heap.size ≤ q → A q := fun q h => by rw [← hAe]; exact Or.inr h
  have hS : va_S A s.heap s.heap [] := va_S.rf
  have hXa := hX
  have hP : va_P (dC, dI) vwCl (xG L cid K N v) s.heap := hP
  have hl := lv_entry ([.ref p0.toNat, .int (iI p1), .int (iI p2)]) (n := 5) (Nat.le_of_ble_eq_true rfl)
  rw [lg_entry_eq]
  generalize (lg_sl ([.ref p0.toNat, .int (iI p1), .int (iI p2)]) ++ List.replicate (5 - (lg_sl ([.ref p0.toNat, .int (iI p1), .int (iI p2)])).length) Slot.unset).toArray = ls at hl ⊢
  have hl : lv_has ls 5 [(0, .ref p0.toNat), (1, .int (iI p1)), (2, .int (iI p2))] := hl
  generalize hQ : MQ below (va_Qi (fun (r : Int32) (u : (Int → Int → Int)) => ∃ z : Int, r = iI z ∧ (xI L K N u) ∧ (fr K [(2, 4)] u v) ∧ (0 ≤ z ∧ z ≤ 1)) (fun u t => va_P (dC, dI) vwCl (xG L cid K N u) t.heap ∧ va_K (dC, dI) vwCl (xT cid) t ∧ va_D A (xG L cid K N u)) A) ([.ref p0.toNat, .int (iI p1), .int (iI p2)] : List Value).toArray s 0 0 A = Q
  suffices ST : ∀ (H : Heap) (locs : List Loc), va_P (dC, dI) vwCl (xG L cid K N v) H → va_S A s.heap H locs → W p l e ({ frames := 1, cells := 0, slots := 0, locals := 21 }) s m ([.ref p0.toNat, .int (iI p1), .int (iI p2)] : List Value).toArray below meth c H locs 0 0 Q (F0 m 0 ls []) from ST _ _ hP hS
  clear hP hS
  intro H locs hP hS
  refine lv_aload_n hx hb dX12_enemies_0 rfl (lv_at hl 0 rfl) ?_
  refine lv_iload_n hx hb dX12_enemies_1 rfl (lv_at hl 1 rfl) ?_
  refine jc_q (va_runV (As := [.int (iI p1)]) (rest := []) ⟨hx, hb, hml, hown, hts⟩ (sX12_handAt l dC dI _ L cid K N tW sK sV v p0 p1 hI q0 (by omega)) (cwV 1 hts (jgoodV m_1056 m_1057 m_1058 m_873 m_1059) rfl rfl rfl (by decide +kernel) ⟨(Nat.le_of_ble_eq_true rfl), (Nat.le_of_ble_eq_true rfl)⟩) ⟨xP_blind, xrecv hK hP q0 rfl rfl, fun U hU hW => ⟨rfl, xP_of hU hW hP hK hD hX hS (fun _ h => h) hA⟩⟩ rfl rfl hl.1 rfl (lv_room (Nat.le_of_ble_eq_true rfl)) dX12_enemies_2 ⟨(Nat.le_of_ble_eq_true rfl), (Nat.le_of_ble_eq_true rfl)⟩) hP hS hA (fun r_1 H locs w_2 hP hS => ?_)
  obtain ⟨z_3, rfl, h_4⟩ := w_2
  refine jt_q (rv z_3) rfl ?_
  refine xq_astore_n (i := 3) (lv' := [(3, rv z_3), (0, .ref p0.toNat), (1, .int (iI p1)), (2, .int (iI p2))]) hx hb dX12_enemies_5 rfl hl (by decide) rfl (fun ls hl => ?_)
  refine lv_aload_n hx hb dX12_enemies_6 rfl (lv_at hl 1 rfl) ?_
  refine lv_iload_n hx hb dX12_enemies_7 rfl (lv_at hl 3 rfl) ?_
  refine jc_q (va_runV (As := [.int (iI p2)]) (rest := []) ⟨hx, hb, hml, hown, hts⟩ (sX12_handAt l dC dI _ L cid K N tW sK sV v p0 p2 hI q0 (by omega)) (cwV 1 hts (jgoodV m_1056 m_1057 m_1058 m_873 m_1059) rfl rfl rfl (by decide +kernel) ⟨(Nat.le_of_ble_eq_true rfl), (Nat.le_of_ble_eq_true rfl)⟩) ⟨xP_blind, xrecv hK hP q0 rfl rfl, fun U hU hW => ⟨rfl, xP_of hU hW hP hK hD hX hS (fun _ h => h) hA⟩⟩ rfl rfl hl.1 rfl (lv_room (Nat.le_of_ble_eq_true rfl)) dX12_enemies_8 ⟨(Nat.le_of_ble_eq_true rfl), (Nat.le_of_ble_eq_true rfl)⟩) hP hS hA (fun r_5 H locs w_6 hP hS => ?_)
  obtain ⟨z_7, rfl, h_8⟩ := w_6
  refine jt_q (rv z_7) rfl ?_
  refine xq_astore (i := 4) (lv' := [(4, rv z_7), (3, rv z_3), (0, .ref p0.toNat), (1, .int (iI p1)), (2, .int (iI p2))]) hx hb dX12_enemies_11 hl (by decide) (by simp [rv_cat]) (fun ls hl => ?_)
  refine xq_aload_n hx hb dX12_enemies_13 rfl (lv_at hl 1 rfl) ?_
  refine xq_ifnull (tgt := 38) hx hb dX12_enemies_14 (by decide) (fun h_9 => ?_) (fun h_9 => ?_)
  · refine lv_iconst (v := iI 0) hx hb dX12_enemies_38 rfl ?_
    rw [← hQ]
    exact W.zret (v := iI 0) (ty := .boolean) hx hb hr (nb_bool (by omega) (by omega)) (fun t ht hW => ⟨⟨iI 0, v, rfl, ⟨0, rfl, hI, fr_rf, by omega⟩, by rw [ht]; exact hP, va_K.moved hW.alike hK, hD⟩, hS.F ht⟩) hS.2.2 dX12_enemies_39
  · have h_10 : ok L K z_3 2 := h_4.resolve_left (by omega)
    refine xq_aload hx hb dX12_enemies_17 (lv_at hl 0 rfl) ?_
    refine xq_ifnull (tgt := 38) hx hb dX12_enemies_19 (by decide) (fun h_11 => ?_) (fun h_11 => ?_)
    · refine lv_iconst (v := iI 0) hx hb dX12_enemies_38 rfl ?_
      rw [← hQ]
      exact W.zret (v := iI 0) (ty := .boolean) hx hb hr (nb_bool (by omega) (by omega)) (fun t ht hW => ⟨⟨iI 0, v, rfl, ⟨0, rfl, hI, fr_rf, by omega⟩, by rw [ht]; exact hP, va_K.moved hW.alike hK, hD⟩, hS.F ht⟩) hS.2.2 dX12_enemies_39
    · have h_12 : ok L K z_7 2 := h_8.resolve_left (by omega)
      refine lv_iload_n hx hb dX12_enemies_22 rfl (lv_at hl 3 rfl) ?_
      refine lv_iload_n hx hb dX12_enemies_23 rfl (lv_at hl 4 rfl) ?_
      refine xr_icmp_eq (tgt := 38) hx hb dX12_enemies_24 (by decide) (by omega) (by omega) (fun h_13 => ?_) (fun h_13 => ?_)
      · refine lv_iconst (v := iI 0) hx hb dX12_enemies_38 rfl ?_
        rw [← hQ]
        exact W.zret (v := iI 0) (ty := .boolean) hx hb hr (nb_bool (by omega) (by omega)) (fun t ht hW => ⟨⟨iI 0, v, rfl, ⟨0, rfl, hI, fr_rf, by omega⟩, by rw [ht]; exact hP, va_K.moved hW.alike hK, hD⟩, hS.F ht⟩) hS.2.2 dX12_enemies_39
      · refine xq_aload_n hx hb dX12_enemies_27 rfl (lv_at hl 1 rfl) ?_
        refine jt_q (.ref z_3.toNat) (rv_ref (h_10).1) ?_
        have h_14 : (-2147483648) ≤ v z_3 4 ∧ v z_3 4 ≤ 2147483647 := xf_2_4 hI h_10
        refine gx_RX12_303 (y := v z_3 4) hx hb hj hown hK hP h_10 rfl dX12_enemies_28 ?_
        refine lv_iload_n hx hb dX12_enemies_31 rfl (lv_at hl 4 rfl) ?_
        refine lv_ishr hx hb dX12_enemies_32 ?_
        refine xr_any (fun z_15 h_16 => ?_)
        refine lv_iconst (v := iI 1) hx hb dX12_enemies_33 rfl ?_
        refine xr_andR hx hb (by omega) (by omega) dX12_enemies_34 (fun z_17 h_18 => ?_)
        refine xr_if_eq (tgt := 40) hx hb dX12_enemies_35 (by decide) (by omega) (fun h_19 => ?_) (fun h_19 => ?_)
        · refine xq_aload_n hx hb dX12_enemies_40 rfl (lv_at hl 1 rfl) ?_
          refine jt_q (.ref z_3.toNat) (rv_ref (h_10).1) ?_
          refine lv_dup hx hb dX12_enemies_41 rfl ?_
          refine gx_RX12_303 (y := v z_3 4) hx hb hj hown hK hP h_10 rfl dX12_enemies_42 ?_
          refine lv_iconst (v := iI 1) hx hb dX12_enemies_45 rfl ?_
          refine lv_iload_n hx hb dX12_enemies_46 rfl (lv_at hl 4 rfl) ?_
          refine lv_ishl hx hb dX12_enemies_47 ?_
          refine xr_any (fun z_20 h_21 => ?_)
          refine lv_ior hx hb dX12_enemies_48 ?_
          refine xr_any (fun z_22 h_23 => ?_)
          refine px_RX12_303 (y := z_22) hx hb hj hown hK hP hD hS hI h_10 ⟨by omega, by omega⟩ dX12_enemies_49 (fun v_24 H locs f_25 e_26 o_27 I_28 hP hD hS => ?_)
          refine xq_aload hx hb dX12_enemies_52 (lv_at hl 0 rfl) ?_
          refine jt_q (.ref z_7.toNat) (rv_ref (h_12).1) ?_
          refine lv_dup hx hb dX12_enemies_54 rfl ?_
          have h_29 : (-2147483648) ≤ v_24 z_7 4 ∧ v_24 z_7 4 ≤ 2147483647 := xf_2_4 I_28 h_12
          refine gx_RX12_303 (y := v_24 z_7 4) hx hb hj hown hK hP h_12 rfl dX12_enemies_55 ?_
          refine lv_iconst (v := iI 1) hx hb dX12_enemies_58 rfl ?_
          refine lv_iload_n hx hb dX12_enemies_59 rfl (lv_at hl 3 rfl) ?_
          refine lv_ishl hx hb dX12_enemies_60 ?_
          refine xr_any (fun z_30 h_31 => ?_)
          refine lv_ior hx hb dX12_enemies_61 ?_
          refine xr_any (fun z_32 h_33 => ?_)
          refine px_RX12_303 (y := z_32) hx hb hj hown hK hP hD hS I_28 h_12 ⟨by omega, by omega⟩ dX12_enemies_62 (fun v_34 H locs f_35 e_36 o_37 I_38 hP hD hS => ?_)
          refine lv_iconst (v := iI 1) hx hb dX12_enemies_65 rfl ?_
          rw [← hQ]
          exact W.zret (v := iI 1) (ty := .boolean) hx hb hr (nb_bool (by omega) (by omega)) (fun t ht hW => ⟨⟨iI 1, v_34, rfl, ⟨1, rfl, I_38, (fr_tr f_35 rfl (fr_tr f_25 rfl fr_rf)), by omega⟩, by rw [ht]; exact hP, va_K.moved hW.alike hK, hD⟩, hS.F ht⟩) hS.2.2 dX12_enemies_66
        · refine lv_iconst (v := iI 0) hx hb dX12_enemies_38 rfl ?_
          rw [← hQ]
          exact W.zret (v := iI 0) (ty := .boolean) hx hb hr (nb_bool (by omega) (by omega)) (fun t ht hW => ⟨⟨iI 0, v, rfl, ⟨0, rfl, hI, fr_rf, by omega⟩, by rw [ht]; exact hP, va_K.moved hW.alike hK, hD⟩, hS.F ht⟩) hS.2.2 dX12_enemies_39
set_option maxHeartbeats 2000000 in
set_option maxRecDepth 100000 in
theorem sX12_pointersTo (l : Launch) (dC : Nat → ClassId) (dI : Nat → Nat → Nat) (sz : Nat) (L : List Nat) (cid : Nat → ClassId) (K : Int → Nat) (N : Int → Int) (tW : Nat) (sK sV : Nat → Nat) (v : Int → Int → Int) (p0 : Int) (p1 : Int) (hI : xI L K N v) (q0 : ok L K p0 12) (q1 : rg p1) : Met l yX12_pointersTo (jk yX12_pointersTo cX12_pointersTo 5 (some .int)) ({ frames := 1, cells := 0, slots := 0, locals := 21 }) (va_Pc [.ref p0.toNat, .int (iI p1)] (xP (dC, dI) (xG L cid K N v) (xT cid) tW sK sV sz)) (va_Qi (fun (r : Int32) (_ : Unit) => ∃ z : Int, r = iI z ∧ (rg z)) (fun _ _ => True) (va_A [] sz)) 0 0 (va_A [] sz) := by
  refine Met.ofW (cc := cX12_pointersTo) (maxL := 5) (ret := (some .int)) (by decide) rfl ?_
  intro p e s m args below meth c s₁ B hml hv
  obtain ⟨rfl, ⟨hsz, hP, hK, hD0⟩, hX⟩ := hv
  have hx := B.exec
  have hb := B.bytes
  have hr := B.returns
  have hts := atoms_spec (ws := (jk yX12_pointersTo cX12_pointersTo 5 (some .int))) B.pre
  have hj : ∀ w ∈ jw, w.before ([.ref p0.toNat, .int (iI p1)] : List Value).toArray s = true := fun w h => hts w (jm h)
  have hown : s.vm.findClass RX12 = some m.cls := findClass_of_methodNamed B.named
  subst hsz
  have hDw := hD0.self (sz := s.heap.size)
  have hAA : ∀ q : Nat, s.heap.size ≤ q → va_A (xG L cid K N v) s.heap.size q := fun q h => Or.inr h
  have hAw : ∀ q, va_A [] s.heap.size q → va_A (xG L cid K N v) s.heap.size q := ja_nil va_S.rf hAA
  generalize hAe : (va_A [] s.heap.size) = A at hAw ⊢
  have hA : ∀ q : Nat, s.heap.size ≤ q → A q := fun q h => by rw [← hAe]; exact Or.inr h
  have hS : va_S A s.heap s.heap [] := va_S.rf
  have hXa := hX.nar hAw
  have hP : va_P (dC, dI) vwCl (xG L cid K N v) s.heap := hP
  have hl := lv_entry ([.ref p0.toNat, .int (iI p1)]) (n := 5) (Nat.le_of_ble_eq_true rfl)
  rw [lg_entry_eq]
  generalize (lg_sl ([.ref p0.toNat, .int (iI p1)]) ++ List.replicate (5 - (lg_sl ([.ref p0.toNat, .int (iI p1)])).length) Slot.unset).toArray = ls at hl ⊢
  have hl : lv_has ls 5 [(0, .ref p0.toNat), (1, .int (iI p1))] := hl
  generalize hQ : MQ below (va_Qi (fun (r : Int32) (_ : Unit) => ∃ z : Int, r = iI z ∧ (rg z)) (fun _ _ => True) A) ([.ref p0.toNat, .int (iI p1)] : List Value).toArray s 0 0 A = Q
  suffices ST : ∀ (H : Heap) (locs : List Loc), va_P (dC, dI) vwCl (xG L cid K N v) H → va_S A s.heap H locs → W p l e ({ frames := 1, cells := 0, slots := 0, locals := 21 }) s m ([.ref p0.toNat, .int (iI p1)] : List Value).toArray below meth c H locs 0 0 Q (F0 m 0 ls []) from ST _ _ hP hS
  clear hP hS
  intro H locs hP hS
  refine lv_iconst (v := iI 0) hx hb dX12_pointersTo_0 rfl ?_
  refine lv_istore_n (i := 2) (lv' := [(2, .int (iI 0)), (0, .ref p0.toNat), (1, .int (iI p1))]) hx hb dX12_pointersTo_1 rfl hl (by decide) rfl (fun ls hl => ?_)
  refine lv_iconst (v := iI 0) hx hb dX12_pointersTo_2 rfl ?_
  refine lv_istore_n (i := 3) (lv' := [(3, .int (iI 0)), (2, .int (iI 0)), (0, .ref p0.toNat), (1, .int (iI p1))]) hx hb dX12_pointersTo_3 rfl hl (by decide) rfl (fun ls hl => ?_)
  have L4 : ∀ (n4 : Nat) (a3_4 a2_4 : Int) (H : Heap) (locs : List Loc) (ls : Array Slot), (0 ≤ a3_4 ∧ a3_4 ≤ 2147483647) → ((-2147483648) ≤ a2_4 ∧ a2_4 ≤ 2147483647) → (0 < (n4 : Int) ∧ (v p0 7) - a3_4 < (n4 : Int)) → va_P (dC, dI) vwCl (xG L cid K N v) H → va_S A s.heap H locs → lv_has ls 5 [(3, .int (iI a3_4)), (2, .int (iI a2_4)), (0, .ref p0.toNat), (1, .int (iI p1))] → W p l e ({ frames := 1, cells := 0, slots := 0, locals := 21 }) s m ([.ref p0.toNat, .int (iI p1)] : List Value).toArray below meth c H locs 0 0 Q (F0 m 4 ls []) := by
    intro n4
    induction n4 with
    | zero =>
      intro a3_4 a2_4 H locs ls h_1 h_2 hm4 hP hS hl
      exfalso; omega
    | succ n4 ih4 =>
      intro a3_4 a2_4 H locs ls h_3 h_4 hm4 hP hS hl
      refine lv_iload_n hx hb dX12_pointersTo_4 rfl (lv_at hl 0 rfl) ?_
      refine lv_aload_n hx hb dX12_pointersTo_5 rfl (lv_at hl 2 rfl) ?_
      have h_5 : 0 ≤ v p0 7 ∧ v p0 7 ≤ 60 := xf_12_7 hI q0
      refine gx_RX12_203 (y := v p0 7) hx hb hj hown hK hP q0 rfl dX12_pointersTo_6 ?_
      refine xr_icmp_ge (tgt := 60) hx hb dX12_pointersTo_9 (by decide) (by omega) (by omega) (fun h_6 => ?_) (fun h_6 => ?_)
      · refine lv_iload_n hx hb dX12_pointersTo_60 rfl (lv_at hl 1 rfl) ?_
        rw [← hQ]
        exact W.iret (v := iI a2_4) hx hb hr (fun t ht hW => ⟨⟨iI a2_4, (), rfl, ⟨a2_4, rfl, by omega⟩, trivial⟩, hS.F ht⟩) hS.2.2 dX12_pointersTo_61
      · refine lv_aload_n hx hb dX12_pointersTo_12 rfl (lv_at hl 2 rfl) ?_
        refine lv_iload_n hx hb dX12_pointersTo_13 rfl (lv_at hl 0 rfl) ?_
        refine jc_q (va_runV (As := [.int (iI a3_4)]) (rest := []) ⟨hx, hb, hml, hown, hts⟩ (sX12_entryAt l dC dI _ L cid K N tW sK sV v p0 a3_4 hI q0 (by omega)) (cwV 1 hts (jgoodV m_870 m_871 m_872 m_873 m_874) rfl rfl rfl (by decide +kernel) ⟨(Nat.le_of_ble_eq_true rfl), (Nat.le_of_ble_eq_true rfl)⟩) ⟨xP_blind, xrecv hK hP q0 rfl rfl, fun U hU hW => ⟨rfl, xP_of hU hW hP hK hDw hX hS hAw hAA⟩⟩ rfl rfl hl.1 rfl (lv_room (Nat.le_of_ble_eq_true rfl)) dX12_pointersTo_14 ⟨(Nat.le_of_ble_eq_true rfl), (Nat.le_of_ble_eq_true rfl)⟩) hP hS hA (fun r_7 H locs w_8 hP hS => ?_)
        obtain ⟨z_9, rfl, h_10⟩ := w_8
        refine jt_q (rv z_9) rfl ?_
        refine xq_astore (i := 4) (lv' := [(4, rv z_9), (3, .int (iI a3_4)), (2, .int (iI a2_4)), (0, .ref p0.toNat), (1, .int (iI p1))]) hx hb dX12_pointersTo_17 hl (by decide) rfl (fun ls hl => ?_)
        refine xq_aload hx hb dX12_pointersTo_19 (lv_at hl 0 rfl) ?_
        have J54 : ∀ (a2_54 : Int) (H : Heap) (locs : List Loc) (ls : Array Slot), ((-2147483648) ≤ a2_54 ∧ a2_54 ≤ 2147483647) → va_P (dC, dI) vwCl (xG L cid K N v) H → va_S A s.heap H locs → lv_has ls 5 [(4, rv z_9), (3, .int (iI a3_4)), (2, .int (iI a2_54)), (0, .ref p0.toNat), (1, .int (iI p1))] → W p l e ({ frames := 1, cells := 0, slots := 0, locals := 21 }) s m ([.ref p0.toNat, .int (iI p1)] : List Value).toArray below meth c H locs 0 0 Q (F0 m 54 ls []) := by
          intro a2_54 H locs ls h_11 hP hS hl
          refine lv_iinc (v := iI (a3_4 + 1)) (lv' := [(3, .int (iI (a3_4 + 1))), (4, rv z_9), (2, .int (iI a2_54)), (0, .ref p0.toNat), (1, .int (iI p1))]) hx hb dX12_pointersTo_54 hl (k := 1) rfl (iI_add _ _) (by decide) rfl (fun ls hl => ?_)
          refine lv_goto (tgt := 4) hx hb dX12_pointersTo_57 (by decide) ?_
          exact ih4 (a3_4 + 1) a2_54 H locs ls (by omega) (by omega) (by omega) hP hS (lv_sub hl [0, 2, 3, 4] rfl)
        refine xq_ifnull (tgt := 54) hx hb dX12_pointersTo_21 (by decide) (fun h_12 => ?_) (fun h_12 => ?_)
        · exact J54 a2_4 H locs ls (by omega) hP hS hl
        · have h_13 : ok L K z_9 0 := h_10.resolve_left (by omega)
          refine xq_aload hx hb dX12_pointersTo_24 (lv_at hl 0 rfl) ?_
          refine jt_q (.ref z_9.toNat) (rv_ref (h_13).1) ?_
          have h_14 : (-2147483648) ≤ v z_9 1 ∧ v z_9 1 ≤ 2147483647 := xf_0_1 hI h_13
          refine gx_RX12_240 (y := v z_9 1) hx hb hj hown hK hP h_13 rfl dX12_pointersTo_26 ?_
          refine lv_iconst (v := iI 1) hx hb dX12_pointersTo_29 rfl ?_
          refine xr_icmp_ne (tgt := 54) hx hb dX12_pointersTo_30 (by decide) (by omega) (by omega) (fun h_15 => ?_) (fun h_15 => ?_)
          · exact J54 a2_4 H locs ls (by omega) hP hS hl
          · refine xq_aload hx hb dX12_pointersTo_33 (lv_at hl 0 rfl) ?_
            refine jt_q (.ref z_9.toNat) (rv_ref (h_13).1) ?_
            have h_16 : (-2147483648) ≤ v z_9 10 ∧ v z_9 10 ≤ 2147483647 := xf_0_10 hI h_13
            refine gx_RX12_193 (y := v z_9 10) hx hb hj hown hK hP h_13 rfl dX12_pointersTo_35 ?_
            refine lv_iload_n hx hb dX12_pointersTo_38 rfl (lv_at hl 4 rfl) ?_
            refine xr_icmp_ne (tgt := 54) hx hb dX12_pointersTo_39 (by decide) (by omega) (by omega) (fun h_17 => ?_) (fun h_17 => ?_)
            · exact J54 a2_4 H locs ls (by omega) hP hS hl
            · refine lv_aload_n hx hb dX12_pointersTo_42 rfl (lv_at hl 3 rfl) ?_
              refine xq_aload hx hb dX12_pointersTo_43 (lv_at hl 0 rfl) ?_
              refine jt_q (.ref z_9.toNat) (rv_ref (h_13).1) ?_
              refine jc_i (va_runV (As := [.ref z_9.toNat]) (rest := []) ⟨hx, hb, hml, hown, hts⟩ (sX12_isStruck l dC dI _ L cid K N tW sK sV v p0 z_9 hI q0 h_13) (cwV 1 hts (jgoodV m_1060 m_1061 m_1062 m_873 m_1063) rfl rfl rfl (by decide +kernel) ⟨(Nat.le_of_ble_eq_true rfl), (Nat.le_of_ble_eq_true rfl)⟩) ⟨xP_blind, xrecv hK hP q0 rfl rfl, fun U hU hW => ⟨rfl, xP_of hU hW hP hK hDw hX hS hAw hAA⟩⟩ rfl rfl hl.1 rfl (lv_room (Nat.le_of_ble_eq_true rfl)) dX12_pointersTo_45 ⟨(Nat.le_of_ble_eq_true rfl), (Nat.le_of_ble_eq_true rfl)⟩) hP hS hA (fun r_18 H locs w_19 hP hS => ?_)
              obtain ⟨z_20, rfl, h_21⟩ := w_19
              refine xr_if_ne (tgt := 54) hx hb dX12_pointersTo_48 (by decide) (by omega) (fun h_22 => ?_) (fun h_22 => ?_)
              · exact J54 a2_4 H locs ls (by omega) hP hS hl
              · refine lv_iinc (v := iI (a2_4 + 1)) (lv' := [(2, .int (iI (a2_4 + 1))), (4, rv z_9), (3, .int (iI a3_4)), (0, .ref p0.toNat), (1, .int (iI p1))]) hx hb dX12_pointersTo_51 hl (k := 2) rfl (iI_add _ _) (by decide) rfl (fun ls hl => ?_)
                obtain ⟨z_23, h_24, h_25, e9⟩ := xr_keep (a2_4 + 1)
                rw [e9] at hl
                exact J54 z_23 H locs ls (by omega) hP hS (lv_sub hl [1, 2, 0, 3, 4] rfl)
  exact L4 ((((v p0 7) - 0 : Int)).toNat + 1) 0 0 H locs ls (by omega) (by omega) (by omega) hP hS hl
set_option maxHeartbeats 2000000 in
set_option maxRecDepth 100000 in
theorem sX12_unfinished (l : Launch) (dC : Nat → ClassId) (dI : Nat → Nat → Nat) (sz : Nat) (L : List Nat) (cid : Nat → ClassId) (K : Int → Nat) (N : Int → Int) (tW : Nat) (sK sV : Nat → Nat) (v : Int → Int → Int) (p0 : Int) (p1 : Int) (hI : xI L K N v) (q0 : ok L K p0 12) (q1 : rg p1) : Met l yX12_unfinished (jk yX12_unfinished cX12_unfinished 5 (some .int)) ({ frames := 1, cells := 0, slots := 0, locals := 21 }) (va_Pc [.ref p0.toNat, .int (iI p1)] (xP (dC, dI) (xG L cid K N v) (xT cid) tW sK sV sz)) (va_Qi (fun (r : Int32) (_ : Unit) => ∃ z : Int, r = iI z ∧ (rg z)) (fun _ _ => True) (va_A [] sz)) 0 0 (va_A [] sz) := by
  refine Met.ofW (cc := cX12_unfinished) (maxL := 5) (ret := (some .int)) (by decide) rfl ?_
  intro p e s m args below meth c s₁ B hml hv
  obtain ⟨rfl, ⟨hsz, hP, hK, hD0⟩, hX⟩ := hv
  have hx := B.exec
  have hb := B.bytes
  have hr := B.returns
  have hts := atoms_spec (ws := (jk yX12_unfinished cX12_unfinished 5 (some .int))) B.pre
  have hj : ∀ w ∈ jw, w.before ([.ref p0.toNat, .int (iI p1)] : List Value).toArray s = true := fun w h => hts w (jm h)
  have hown : s.vm.findClass RX12 = some m.cls := findClass_of_methodNamed B.named
  subst hsz
  have hDw := hD0.self (sz := s.heap.size)
  have hAA : ∀ q : Nat, s.heap.size ≤ q → va_A (xG L cid K N v) s.heap.size q := fun q h => Or.inr h
  have hAw : ∀ q, va_A [] s.heap.size q → va_A (xG L cid K N v) s.heap.size q := ja_nil va_S.rf hAA
  generalize hAe : (va_A [] s.heap.size) = A at hAw ⊢
  have hA : ∀ q : Nat, s.heap.size ≤ q → A q := fun q h => by rw [← hAe]; exact Or.inr h
  have hS : va_S A s.heap s.heap [] := va_S.rf
  have hXa := hX.nar hAw
  have hP : va_P (dC, dI) vwCl (xG L cid K N v) s.heap := hP
  have hl := lv_entry ([.ref p0.toNat, .int (iI p1)]) (n := 5) (Nat.le_of_ble_eq_true rfl)
  rw [lg_entry_eq]
  generalize (lg_sl ([.ref p0.toNat, .int (iI p1)]) ++ List.replicate (5 - (lg_sl ([.ref p0.toNat, .int (iI p1)])).length) Slot.unset).toArray = ls at hl ⊢
  have hl : lv_has ls 5 [(0, .ref p0.toNat), (1, .int (iI p1))] := hl
  generalize hQ : MQ below (va_Qi (fun (r : Int32) (_ : Unit) => ∃ z : Int, r = iI z ∧ (rg z)) (fun _ _ => True) A) ([.ref p0.toNat, .int (iI p1)] : List Value).toArray s 0 0 A = Q
  suffices ST : ∀ (H : Heap) (locs : List Loc), va_P (dC, dI) vwCl (xG L cid K N v) H → va_S A s.heap H locs → W p l e ({ frames := 1, cells := 0, slots := 0, locals := 21 }) s m ([.ref p0.toNat, .int (iI p1)] : List Value).toArray below meth c H locs 0 0 Q (F0 m 0 ls []) from ST _ _ hP hS
  clear hP hS
  intro H locs hP hS
  refine lv_iconst (v := iI 0) hx hb dX12_unfinished_0 rfl ?_
  refine lv_istore_n (i := 2) (lv' := [(2, .int (iI 0)), (0, .ref p0.toNat), (1, .int (iI p1))]) hx hb dX12_unfinished_1 rfl hl (by decide) rfl (fun ls hl => ?_)
  refine lv_iconst (v := iI 0) hx hb dX12_unfinished_2 rfl ?_
  refine lv_istore_n (i := 3) (lv' := [(3, .int (iI 0)), (2, .int (iI 0)), (0, .ref p0.toNat), (1, .int (iI p1))]) hx hb dX12_unfinished_3 rfl hl (by decide) rfl (fun ls hl => ?_)
  have L4 : ∀ (n4 : Nat) (a3_4 a2_4 : Int) (H : Heap) (locs : List Loc) (ls : Array Slot), (0 ≤ a3_4 ∧ a3_4 ≤ 2147483647) → ((-2147483648) ≤ a2_4 ∧ a2_4 ≤ 2147483647) → (0 < (n4 : Int) ∧ (v p0 7) - a3_4 < (n4 : Int)) → va_P (dC, dI) vwCl (xG L cid K N v) H → va_S A s.heap H locs → lv_has ls 5 [(3, .int (iI a3_4)), (2, .int (iI a2_4)), (0, .ref p0.toNat), (1, .int (iI p1))] → W p l e ({ frames := 1, cells := 0, slots := 0, locals := 21 }) s m ([.ref p0.toNat, .int (iI p1)] : List Value).toArray below meth c H locs 0 0 Q (F0 m 4 ls []) := by
    intro n4
    induction n4 with
    | zero =>
      intro a3_4 a2_4 H locs ls h_1 h_2 hm4 hP hS hl
      exfalso; omega
    | succ n4 ih4 =>
      intro a3_4 a2_4 H locs ls h_3 h_4 hm4 hP hS hl
      refine lv_iload_n hx hb dX12_unfinished_4 rfl (lv_at hl 0 rfl) ?_
      refine lv_aload_n hx hb dX12_unfinished_5 rfl (lv_at hl 2 rfl) ?_
      have h_5 : 0 ≤ v p0 7 ∧ v p0 7 ≤ 60 := xf_12_7 hI q0
      refine gx_RX12_203 (y := v p0 7) hx hb hj hown hK hP q0 rfl dX12_unfinished_6 ?_
      refine xr_icmp_ge (tgt := 42) hx hb dX12_unfinished_9 (by decide) (by omega) (by omega) (fun h_6 => ?_) (fun h_6 => ?_)
      · refine lv_iload_n hx hb dX12_unfinished_42 rfl (lv_at hl 1 rfl) ?_
        rw [← hQ]
        exact W.iret (v := iI a2_4) hx hb hr (fun t ht hW => ⟨⟨iI a2_4, (), rfl, ⟨a2_4, rfl, by omega⟩, trivial⟩, hS.F ht⟩) hS.2.2 dX12_unfinished_43
      · refine lv_aload_n hx hb dX12_unfinished_12 rfl (lv_at hl 2 rfl) ?_
        refine lv_iload_n hx hb dX12_unfinished_13 rfl (lv_at hl 0 rfl) ?_
        refine jc_q (va_runV (As := [.int (iI a3_4)]) (rest := []) ⟨hx, hb, hml, hown, hts⟩ (sX12_entryAt l dC dI _ L cid K N tW sK sV v p0 a3_4 hI q0 (by omega)) (cwV 1 hts (jgoodV m_870 m_871 m_872 m_873 m_874) rfl rfl rfl (by decide +kernel) ⟨(Nat.le_of_ble_eq_true rfl), (Nat.le_of_ble_eq_true rfl)⟩) ⟨xP_blind, xrecv hK hP q0 rfl rfl, fun U hU hW => ⟨rfl, xP_of hU hW hP hK hDw hX hS hAw hAA⟩⟩ rfl rfl hl.1 rfl (lv_room (Nat.le_of_ble_eq_true rfl)) dX12_unfinished_14 ⟨(Nat.le_of_ble_eq_true rfl), (Nat.le_of_ble_eq_true rfl)⟩) hP hS hA (fun r_7 H locs w_8 hP hS => ?_)
        obtain ⟨z_9, rfl, h_10⟩ := w_8
        refine jt_q (rv z_9) rfl ?_
        refine xq_astore (i := 4) (lv' := [(4, rv z_9), (3, .int (iI a3_4)), (2, .int (iI a2_4)), (0, .ref p0.toNat), (1, .int (iI p1))]) hx hb dX12_unfinished_17 hl (by decide) rfl (fun ls hl => ?_)
        refine xq_aload hx hb dX12_unfinished_19 (lv_at hl 0 rfl) ?_
        have J36 : ∀ (a2_36 : Int) (H : Heap) (locs : List Loc) (ls : Array Slot), ((-2147483648) ≤ a2_36 ∧ a2_36 ≤ 2147483647) → va_P (dC, dI) vwCl (xG L cid K N v) H → va_S A s.heap H locs → lv_has ls 5 [(4, rv z_9), (3, .int (iI a3_4)), (2, .int (iI a2_36)), (0, .ref p0.toNat), (1, .int (iI p1))] → W p l e ({ frames := 1, cells := 0, slots := 0, locals := 21 }) s m ([.ref p0.toNat, .int (iI p1)] : List Value).toArray below meth c H locs 0 0 Q (F0 m 36 ls []) := by
          intro a2_36 H locs ls h_11 hP hS hl
          refine lv_iinc (v := iI (a3_4 + 1)) (lv' := [(3, .int (iI (a3_4 + 1))), (4, rv z_9), (2, .int (iI a2_36)), (0, .ref p0.toNat), (1, .int (iI p1))]) hx hb dX12_unfinished_36 hl (k := 1) rfl (iI_add _ _) (by decide) rfl (fun ls hl => ?_)
          refine lv_goto (tgt := 4) hx hb dX12_unfinished_39 (by decide) ?_
          exact ih4 (a3_4 + 1) a2_36 H locs ls (by omega) (by omega) (by omega) hP hS (lv_sub hl [0, 2, 3, 4] rfl)
        refine xq_ifnull (tgt := 36) hx hb dX12_unfinished_21 (by decide) (fun h_12 => ?_) (fun h_12 => ?_)
        · exact J36 a2_4 H locs ls (by omega) hP hS hl
        · have h_13 : ok L K z_9 0 := h_10.resolve_left (by omega)
          refine xq_aload hx hb dX12_unfinished_24 (lv_at hl 0 rfl) ?_
          refine jt_q (.ref z_9.toNat) (rv_ref (h_13).1) ?_
          refine lv_iload_n hx hb dX12_unfinished_26 rfl (lv_at hl 4 rfl) ?_
          refine jc_i (va_runV (As := [.int (iI p1)]) (rest := []) ⟨hx, hb, hml, hown, hts⟩ (sX0_isUnfinishedOf l dC dI _ L cid K N tW sK sV v z_9 p1 hI h_13 (by omega)) (cwV 1 hts (jgoodV m_1064 m_1065 m_1066 m_666 m_1067) rfl rfl rfl (by decide +kernel) ⟨(Nat.le_of_ble_eq_true rfl), (Nat.le_of_ble_eq_true rfl)⟩) ⟨xP_blind, xrecv hK hP h_13 rfl rfl, fun U hU hW => ⟨rfl, xP_of hU hW hP hK hDw hX hS hAw hAA⟩⟩ rfl rfl hl.1 rfl (lv_room (Nat.le_of_ble_eq_true rfl)) dX12_unfinished_27 ⟨(Nat.le_of_ble_eq_true rfl), (Nat.le_of_ble_eq_true rfl)⟩) hP hS hA (fun r_14 H locs w_15 hP hS => ?_)
          obtain ⟨z_16, rfl, h_17⟩ := w_15
          refine xr_if_eq (tgt := 36) hx hb dX12_unfinished_30 (by decide) (by omega) (fun h_18 => ?_) (fun h_18 => ?_)
          · exact J36 a2_4 H locs ls (by omega) hP hS hl
          · refine lv_iinc (v := iI (a2_4 + 1)) (lv' := [(2, .int (iI (a2_4 + 1))), (4, rv z_9), (3, .int (iI a3_4)), (0, .ref p0.toNat), (1, .int (iI p1))]) hx hb dX12_unfinished_33 hl (k := 2) rfl (iI_add _ _) (by decide) rfl (fun ls hl => ?_)
            obtain ⟨z_19, h_20, h_21, e9⟩ := xr_keep (a2_4 + 1)
            rw [e9] at hl
            exact J36 z_19 H locs ls (by omega) hP hS (lv_sub hl [1, 2, 0, 3, 4] rfl)
  exact L4 ((((v p0 7) - 0 : Int)).toNat + 1) 0 0 H locs ls (by omega) (by omega) (by omega) hP hS hl
set_option maxHeartbeats 2000000 in
set_option maxRecDepth 100000 in
theorem sX12_ask (l : Launch) (dC : Nat → ClassId) (dI : Nat → Nat → Nat) (sz : Nat) (L : List Nat) (cid : Nat → ClassId) (K : Int → Nat) (N : Int → Int) (tW : Nat) (sK sV : Nat → Nat) (v : Int → Int → Int) (p0 : Int) (p1 : Int) (p2 : Int) (p3 : Int) (hI : xI L K N v) (q0 : ok L K p0 12) (q1 : ok L K p1 0) (q2 : rg p2) (q3 : rg p3) : Met l yX12_ask (jk yX12_ask cX12_ask 5 none) ({ frames := 2, cells := 0, slots := 0, locals := 45 }) (va_Pc [.ref p0.toNat, .ref p1.toNat, .int (iI p2), .int (iI p3)] (xP (dC, dI) (xG L cid K N v) (xT cid) tW sK sV sz)) (va_Qv (fun (u : (Int → Int → Int)) => (xI L K N u) ∧ (fr K [(33, (-1))] u v)) (fun u t => va_P (dC, dI) vwCl (xG L cid K N u) t.heap ∧ va_K (dC, dI) vwCl (xT cid) t ∧ va_D (va_A (xG L cid K N v) sz) (xG L cid K N u)) (va_A (xG L cid K N v) sz)) 0 0 (va_A (xG L cid K N v) sz) := by
  refine Met.ofW (cc := cX12_ask) (maxL := 5) (ret := none) (by decide) rfl ?_
  intro p e s m args below meth c s₁ B hml hv
  obtain ⟨rfl, ⟨hsz, hP, hK, hD0⟩, hX⟩ := hv
  have hx := B.exec
  have hb := B.bytes
  have hr := B.returns
  have hts := atoms_spec (ws := (jk yX12_ask cX12_ask 5 none)) B.pre
  have hj : ∀ w ∈ jw, w.before ([.ref p0.toNat, .ref p1.toNat, .int (iI p2), .int (iI p3)] : List Value).toArray s = true := fun w h => hts w (jm h)
  have hown : s.vm.findClass RX12 = some m.cls := findClass_of_methodNamed B.named
  subst hsz
  have hD := hD0.self (sz := s.heap.size)
  generalize hAe : (va_A (xG L cid K N v) s.heap.size) = A at hD hX ⊢
  have hA : ∀ q : Nat, s.heap.size ≤ q → A q := fun q h => by rw [← hAe]; exact Or.inr h
  have hS : va_S A s.heap s.heap [] := va_S.rf
  have hXa := hX
  have hP : va_P (dC, dI) vwCl (xG L cid K N v) s.heap := hP
  have hl := lv_entry ([.ref p0.toNat, .ref p1.toNat, .int (iI p2), .int (iI p3)]) (n := 5) (Nat.le_of_ble_eq_true rfl)
  rw [lg_entry_eq]
  generalize (lg_sl ([.ref p0.toNat, .ref p1.toNat, .int (iI p2), .int (iI p3)]) ++ List.replicate (5 - (lg_sl ([.ref p0.toNat, .ref p1.toNat, .int (iI p2), .int (iI p3)])).length) Slot.unset).toArray = ls at hl ⊢
  have hl : lv_has ls 5 [(0, .ref p0.toNat), (1, .ref p1.toNat), (2, .int (iI p2)), (3, .int (iI p3))] := hl
  generalize hQ : MQ below (va_Qv (fun (u : (Int → Int → Int)) => (xI L K N u) ∧ (fr K [(33, (-1))] u v)) (fun u t => va_P (dC, dI) vwCl (xG L cid K N u) t.heap ∧ va_K (dC, dI) vwCl (xT cid) t ∧ va_D A (xG L cid K N u)) A) ([.ref p0.toNat, .ref p1.toNat, .int (iI p2), .int (iI p3)] : List Value).toArray s 0 0 A = Q
  suffices ST : ∀ (H : Heap) (locs : List Loc), va_P (dC, dI) vwCl (xG L cid K N v) H → va_S A s.heap H locs → W p l e ({ frames := 2, cells := 0, slots := 0, locals := 45 }) s m ([.ref p0.toNat, .ref p1.toNat, .int (iI p2), .int (iI p3)] : List Value).toArray below meth c H locs 0 0 Q (F0 m 0 ls []) from ST _ _ hP hS
  clear hP hS
  intro H locs hP hS
  refine lv_aload_n hx hb dX12_ask_0 rfl (lv_at hl 0 rfl) ?_
  refine lv_iload_n hx hb dX12_ask_1 rfl (lv_at hl 3 rfl) ?_
  refine jc_q (va_runV (As := [.int (iI p3)]) (rest := []) ⟨hx, hb, hml, hown, hts⟩ (sX12_handAt l dC dI _ L cid K N tW sK sV v p0 p3 hI q0 (by omega)) (cwV 1 hts (jgoodV m_1056 m_1057 m_1058 m_873 m_1059) rfl rfl rfl (by decide +kernel) ⟨(Nat.le_of_ble_eq_true rfl), (Nat.le_of_ble_eq_true rfl)⟩) ⟨xP_blind, xrecv hK hP q0 rfl rfl, fun U hU hW => ⟨rfl, xP_of hU hW hP hK hD hX hS (fun _ h => h) hA⟩⟩ rfl rfl hl.1 rfl (lv_room (Nat.le_of_ble_eq_true rfl)) dX12_ask_2 ⟨(Nat.le_of_ble_eq_true rfl), (Nat.le_of_ble_eq_true rfl)⟩) hP hS hA (fun r_1 H locs w_2 hP hS => ?_)
  obtain ⟨z_3, rfl, h_4⟩ := w_2
  refine jt_q (rv z_3) rfl ?_
  refine xq_astore (i := 4) (lv' := [(4, rv z_3), (0, .ref p0.toNat), (1, .ref p1.toNat), (2, .int (iI p2)), (3, .int (iI p3))]) hx hb dX12_ask_5 hl (by decide) rfl (fun ls hl => ?_)
  refine lv_aload_n hx hb dX12_ask_7 rfl (lv_at hl 1 rfl) ?_
  have h_5 : ok L K (v p0 3) 8 := xf_12_3 hI q0
  refine gx_RX12_19 (y := v p0 3) hx hb hj hown hK hP q0 ((xf_12_3 hI q0).1) rfl dX12_ask_8 ?_
  refine lv_iconst (v := iI 0) hx hb dX12_ask_11 rfl ?_
  refine lv_aload_n hx hb dX12_ask_12 rfl (lv_at hl 2 rfl) ?_
  have h_6 : 0 ≤ v p1 9 ∧ v p1 9 ≤ 200 := xf_0_9 hI q1
  refine gx_RX12_183 (y := v p1 9) hx hb hj hown hK hP q1 rfl dX12_ask_13 ?_
  refine jcg_v (va_runV (As := [.int (iI 0), .int (iI (v p1 9))]) (rest := []) ⟨hx, hb, hml, hown, hts⟩ (sX8_name l dC dI _ L cid K N tW sK sV v (v p0 3) 0 (v p1 9) hI h_5 (by omega) (by omega)) (cwV 2 hts (jgoodV m_1068 m_1069 m_1070 m_928 m_1071) rfl rfl rfl (by decide +kernel) ⟨(Nat.le_of_ble_eq_true rfl), (Nat.le_of_ble_eq_true rfl)⟩) ⟨xP_blind, xrecv hK hP h_5 rfl rfl, fun U hU hW => ⟨rfl, xP_of hU hW hP hK hD hX hS (fun _ h => h) hA⟩⟩ rfl rfl hl.1 rfl (lv_room (Nat.le_of_ble_eq_true rfl)) dX12_ask_16 ⟨(Nat.le_of_ble_eq_true rfl), (Nat.le_of_ble_eq_true rfl)⟩) hD hS hA (fun v_10 H locs w_8 hP hK hD hS => ?_)
  obtain ⟨I_12, f_11⟩ := w_8
  have hP : va_P (dC, dI) vwCl (xG L cid K N v_10) H := hP
  have hD : va_D A (xG L cid K N v_10) := hD
  refine lv_aload_n hx hb dX12_ask_19 rfl (lv_at hl 1 rfl) ?_
  refine gx_RX12_19 (y := v p0 3) hx hb hj hown hK hP q0 ((xf_12_3 I_12 q0).1) (fr_use q0 f_11 rfl) dX12_ask_20 ?_
  refine lv_iconst (v := iI 1) hx hb dX12_ask_23 rfl ?_
  refine lv_aload_n hx hb dX12_ask_24 rfl (lv_at hl 2 rfl) ?_
  have h_13 : 0 ≤ v p1 15 ∧ v p1 15 ≤ 200 := xf_0_15 hI q1
  refine gx_RX12_342 (y := v p1 15) hx hb hj hown hK hP q1 (fr_use q1 f_11 rfl) dX12_ask_25 ?_
  refine jcg_v (va_runV (As := [.int (iI 1), .int (iI (v p1 15))]) (rest := []) ⟨hx, hb, hml, hown, hts⟩ (sX8_name l dC dI _ L cid K N tW sK sV v_10 (v p0 3) 1 (v p1 15) I_12 h_5 (by omega) (by omega)) (cwV 2 hts (jgoodV m_1068 m_1069 m_1070 m_928 m_1071) rfl rfl rfl (by decide +kernel) ⟨(Nat.le_of_ble_eq_true rfl), (Nat.le_of_ble_eq_true rfl)⟩) ⟨xP_blind, xrecv hK hP h_5 rfl rfl, fun U hU hW => ⟨rfl, xP_of hU hW hP hK hD hX hS (fun _ h => h) hA⟩⟩ rfl rfl hl.1 rfl (lv_room (Nat.le_of_ble_eq_true rfl)) dX12_ask_28 ⟨(Nat.le_of_ble_eq_true rfl), (Nat.le_of_ble_eq_true rfl)⟩) hD hS hA (fun v_17 H locs w_15 hP hK hD hS => ?_)
  obtain ⟨I_19, f_18⟩ := w_15
  have hP : va_P (dC, dI) vwCl (xG L cid K N v_17) H := hP
  have hD : va_D A (xG L cid K N v_17) := hD
  refine lv_aload_n hx hb dX12_ask_31 rfl (lv_at hl 1 rfl) ?_
  refine gx_RX12_19 (y := v p0 3) hx hb hj hown hK hP q0 ((xf_12_3 I_19 q0).1) (((fr_use q0 f_18 rfl)).trans (fr_use q0 f_11 rfl)) dX12_ask_32 ?_
  refine lv_iconst (v := iI 2) hx hb dX12_ask_35 rfl ?_
  refine lv_aload_n hx hb dX12_ask_36 rfl (lv_at hl 2 rfl) ?_
  refine gx_RX12_345 (y := v_17 p1 16) hx hb hj hown hK hP q1 rfl dX12_ask_37 ?_
  refine jc_i (va_runS (As := [.long (lL (v_17 p1 16))]) (rest := [.int (iI 2), .ref (v p0 3).toNat]) ⟨hx, hb, hml, hown, hts⟩ (sJ13_bitCount_95d88 l dC dI _ (v_17 p1 16) ) (va_cwS 1 hts (jgoodS m_1072 m_1073 m_1074 m_1075) rfl rfl rfl (by decide +kernel) ⟨(Nat.le_of_ble_eq_true rfl), (Nat.le_of_ble_eq_true rfl)⟩) ⟨jw_blind0, fun U hU hW => ⟨rfl, congrArg Array.size hU⟩⟩ rfl rfl hl.1 rfl (lv_room (Nat.le_of_ble_eq_true rfl)) dX12_ask_40 ⟨(Nat.le_of_ble_eq_true rfl), (Nat.le_of_ble_eq_true rfl)⟩) hP hS hA (fun r_20 H locs w_21 hP hS => ?_)
  obtain ⟨z_22, rfl, h_23⟩ := w_21
  refine jcg_v (va_runV (As := [.int (iI 2), .int (iI z_22)]) (rest := []) ⟨hx, hb, hml, hown, hts⟩ (sX8_name l dC dI _ L cid K N tW sK sV v_17 (v p0 3) 2 z_22 I_19 h_5 (by omega) (by omega)) (cwV 2 hts (jgoodV m_1068 m_1069 m_1070 m_928 m_1071) rfl rfl rfl (by decide +kernel) ⟨(Nat.le_of_ble_eq_true rfl), (Nat.le_of_ble_eq_true rfl)⟩) ⟨xP_blind, xrecv hK hP h_5 rfl rfl, fun U hU hW => ⟨rfl, xP_of hU hW hP hK hD hX hS (fun _ h => h) hA⟩⟩ rfl rfl hl.1 rfl (lv_room (Nat.le_of_ble_eq_true rfl)) dX12_ask_43 ⟨(Nat.le_of_ble_eq_true rfl), (Nat.le_of_ble_eq_true rfl)⟩) hD hS hA (fun v_27 H locs w_25 hP hK hD hS => ?_)
  obtain ⟨I_29, f_28⟩ := w_25
  have hP : va_P (dC, dI) vwCl (xG L cid K N v_27) H := hP
  have hD : va_D A (xG L cid K N v_27) := hD
  refine lv_aload_n hx hb dX12_ask_46 rfl (lv_at hl 1 rfl) ?_
  refine gx_RX12_19 (y := v p0 3) hx hb hj hown hK hP q0 ((xf_12_3 I_29 q0).1) (((fr_use q0 f_28 rfl)).trans (((fr_use q0 f_18 rfl)).trans (fr_use q0 f_11 rfl))) dX12_ask_47 ?_
  refine lv_iconst (v := iI 3) hx hb dX12_ask_50 rfl ?_
  refine lv_aload_n hx hb dX12_ask_51 rfl (lv_at hl 1 rfl) ?_
  refine lv_aload_n hx hb dX12_ask_52 rfl (lv_at hl 2 rfl) ?_
  have h_30 : (-2147483648) ≤ v p1 0 ∧ v p1 0 ≤ 2147483647 := xf_0_0 hI q1
  refine gx_RX12_186 (y := v p1 0) hx hb hj hown hK hP q1 (((fr_use q1 f_28 rfl)).trans (((fr_use q1 f_18 rfl)).trans (fr_use q1 f_11 rfl))) dX12_ask_53 ?_
  refine jc_i (va_runV (As := [.int (iI (v p1 0))]) (rest := [.int (iI 3), .ref (v p0 3).toNat]) ⟨hx, hb, hml, hown, hts⟩ (sX12_pointersTo l dC dI _ L cid K N tW sK sV v_27 p0 (v p1 0) I_29 q0 (by omega)) (cwV 1 hts (jgoodV m_1076 m_1077 m_1078 m_873 m_1079) rfl rfl rfl (by decide +kernel) ⟨(Nat.le_of_ble_eq_true rfl), (Nat.le_of_ble_eq_true rfl)⟩) ⟨xP_blind, xrecv hK hP q0 rfl rfl, fun U hU hW => ⟨rfl, xP_of hU hW hP hK hD hX hS (fun _ h => h) hA⟩⟩ rfl rfl hl.1 rfl (lv_room (Nat.le_of_ble_eq_true rfl)) dX12_ask_56 ⟨(Nat.le_of_ble_eq_true rfl), (Nat.le_of_ble_eq_true rfl)⟩) hP hS hA (fun r_31 H locs w_32 hP hS => ?_)
  obtain ⟨z_33, rfl, h_34⟩ := w_32
  refine jcg_v (va_runV (As := [.int (iI 3), .int (iI z_33)]) (rest := []) ⟨hx, hb, hml, hown, hts⟩ (sX8_name l dC dI _ L cid K N tW sK sV v_27 (v p0 3) 3 z_33 I_29 h_5 (by omega) (by omega)) (cwV 2 hts (jgoodV m_1068 m_1069 m_1070 m_928 m_1071) rfl rfl rfl (by decide +kernel) ⟨(Nat.le_of_ble_eq_true rfl), (Nat.le_of_ble_eq_true rfl)⟩) ⟨xP_blind, xrecv hK hP h_5 rfl rfl, fun U hU hW => ⟨rfl, xP_of hU hW hP hK hD hX hS (fun _ h => h) hA⟩⟩ rfl rfl hl.1 rfl (lv_room (Nat.le_of_ble_eq_true rfl)) dX12_ask_59 ⟨(Nat.le_of_ble_eq_true rfl), (Nat.le_of_ble_eq_true rfl)⟩) hD hS hA (fun v_38 H locs w_36 hP hK hD hS => ?_)
  obtain ⟨I_40, f_39⟩ := w_36
  have hP : va_P (dC, dI) vwCl (xG L cid K N v_38) H := hP
  have hD : va_D A (xG L cid K N v_38) := hD
  refine lv_aload_n hx hb dX12_ask_62 rfl (lv_at hl 1 rfl) ?_
  refine gx_RX12_19 (y := v p0 3) hx hb hj hown hK hP q0 ((xf_12_3 I_40 q0).1) (((fr_use q0 f_39 rfl)).trans (((fr_use q0 f_28 rfl)).trans (((fr_use q0 f_18 rfl)).trans (fr_use q0 f_11 rfl)))) dX12_ask_63 ?_
  refine lv_iconst (v := iI 4) hx hb dX12_ask_66 rfl ?_
  refine lv_aload_n hx hb dX12_ask_67 rfl (lv_at hl 2 rfl) ?_
  have h_41 : (-2147483648) ≤ v p1 8 ∧ v p1 8 ≤ 2147483647 := xf_0_8 hI q1
  refine gx_RX12_180 (y := v p1 8) hx hb hj hown hK hP q1 (((fr_use q1 f_39 rfl)).trans (((fr_use q1 f_28 rfl)).trans (((fr_use q1 f_18 rfl)).trans (fr_use q1 f_11 rfl)))) dX12_ask_68 ?_
  refine jcg_v (va_runV (As := [.int (iI 4), .int (iI (v p1 8))]) (rest := []) ⟨hx, hb, hml, hown, hts⟩ (sX8_name l dC dI _ L cid K N tW sK sV v_38 (v p0 3) 4 (v p1 8) I_40 h_5 (by omega) (by omega)) (cwV 2 hts (jgoodV m_1068 m_1069 m_1070 m_928 m_1071) rfl rfl rfl (by decide +kernel) ⟨(Nat.le_of_ble_eq_true rfl), (Nat.le_of_ble_eq_true rfl)⟩) ⟨xP_blind, xrecv hK hP h_5 rfl rfl, fun U hU hW => ⟨rfl, xP_of hU hW hP hK hD hX hS (fun _ h => h) hA⟩⟩ rfl rfl hl.1 rfl (lv_room (Nat.le_of_ble_eq_true rfl)) dX12_ask_71 ⟨(Nat.le_of_ble_eq_true rfl), (Nat.le_of_ble_eq_true rfl)⟩) hD hS hA (fun v_45 H locs w_43 hP hK hD hS => ?_)
  obtain ⟨I_47, f_46⟩ := w_43
  have hP : va_P (dC, dI) vwCl (xG L cid K N v_45) H := hP
  have hD : va_D A (xG L cid K N v_45) := hD
  refine lv_aload_n hx hb dX12_ask_74 rfl (lv_at hl 1 rfl) ?_
  refine gx_RX12_19 (y := v p0 3) hx hb hj hown hK hP q0 ((xf_12_3 I_47 q0).1) (((fr_use q0 f_46 rfl)).trans (((fr_use q0 f_39 rfl)).trans (((fr_use q0 f_28 rfl)).trans (((fr_use q0 f_18 rfl)).trans (fr_use q0 f_11 rfl))))) dX12_ask_75 ?_
  refine lv_iconst (v := iI 5) hx hb dX12_ask_78 rfl ?_
  refine xq_aload hx hb dX12_ask_79 (lv_at hl 0 rfl) ?_
  have J93 : ∀ (s0_93 : Int) (H : Heap) (locs : List Loc) (ls : Array Slot), ((-2147483648) ≤ s0_93 ∧ s0_93 ≤ 2147483647) → va_P (dC, dI) vwCl (xG L cid K N v_45) H → va_D A (xG L cid K N v_45) → va_S A s.heap H locs → lv_has ls 5 [(4, rv z_3), (0, .ref p0.toNat), (1, .ref p1.toNat), (2, .int (iI p2)), (3, .int (iI p3))] → W p l e ({ frames := 2, cells := 0, slots := 0, locals := 45 }) s m ([.ref p0.toNat, .ref p1.toNat, .int (iI p2), .int (iI p3)] : List Value).toArray below meth c H locs 0 0 Q (F0 m 93 ls [.int (iI s0_93), .int (iI 5), .ref (v p0 3).toNat]) := by
    intro s0_93 H locs ls h_48 hP hD hS hl
    refine jcg_v (va_runV (As := [.int (iI 5), .int (iI s0_93)]) (rest := []) ⟨hx, hb, hml, hown, hts⟩ (sX8_name l dC dI _ L cid K N tW sK sV v_45 (v p0 3) 5 s0_93 I_47 h_5 (by omega) (by omega)) (cwV 2 hts (jgoodV m_1068 m_1069 m_1070 m_928 m_1071) rfl rfl rfl (by decide +kernel) ⟨(Nat.le_of_ble_eq_true rfl), (Nat.le_of_ble_eq_true rfl)⟩) ⟨xP_blind, xrecv hK hP h_5 rfl rfl, fun U hU hW => ⟨rfl, xP_of hU hW hP hK hD hX hS (fun _ h => h) hA⟩⟩ rfl rfl hl.1 rfl (lv_room (Nat.le_of_ble_eq_true rfl)) dX12_ask_93 ⟨(Nat.le_of_ble_eq_true rfl), (Nat.le_of_ble_eq_true rfl)⟩) hD hS hA (fun v_52 H locs w_50 hP hK hD hS => ?_)
    obtain ⟨I_54, f_53⟩ := w_50
    have hP : va_P (dC, dI) vwCl (xG L cid K N v_52) H := hP
    have hD : va_D A (xG L cid K N v_52) := hD
    refine lv_aload_n hx hb dX12_ask_96 rfl (lv_at hl 1 rfl) ?_
    refine gx_RX12_19 (y := v p0 3) hx hb hj hown hK hP q0 ((xf_12_3 I_54 q0).1) (((fr_use q0 f_53 rfl)).trans (((fr_use q0 f_46 rfl)).trans (((fr_use q0 f_39 rfl)).trans (((fr_use q0 f_28 rfl)).trans (((fr_use q0 f_18 rfl)).trans (fr_use q0 f_11 rfl)))))) dX12_ask_97 ?_
    refine lv_bipush (v := iI 6) hx hb dX12_ask_100 rfl ?_
    refine xq_aload hx hb dX12_ask_102 (lv_at hl 0 rfl) ?_
    have J125 : ∀ (s0_125 : Int) (H : Heap) (locs : List Loc) (ls : Array Slot), ((-2147483648) ≤ s0_125 ∧ s0_125 ≤ 2147483647) → va_P (dC, dI) vwCl (xG L cid K N v_52) H → va_D A (xG L cid K N v_52) → va_S A s.heap H locs → lv_has ls 5 [(4, rv z_3), (0, .ref p0.toNat), (1, .ref p1.toNat), (2, .int (iI p2)), (3, .int (iI p3))] → W p l e ({ frames := 2, cells := 0, slots := 0, locals := 45 }) s m ([.ref p0.toNat, .ref p1.toNat, .int (iI p2), .int (iI p3)] : List Value).toArray below meth c H locs 0 0 Q (F0 m 125 ls [.int (iI s0_125), .int (iI 6), .ref (v p0 3).toNat]) := by
      intro s0_125 H locs ls h_55 hP hD hS hl
      refine jcg_v (va_runV (As := [.int (iI 6), .int (iI s0_125)]) (rest := []) ⟨hx, hb, hml, hown, hts⟩ (sX8_name l dC dI _ L cid K N tW sK sV v_52 (v p0 3) 6 s0_125 I_54 h_5 (by omega) (by omega)) (cwV 2 hts (jgoodV m_1068 m_1069 m_1070 m_928 m_1071) rfl rfl rfl (by decide +kernel) ⟨(Nat.le_of_ble_eq_true rfl), (Nat.le_of_ble_eq_true rfl)⟩) ⟨xP_blind, xrecv hK hP h_5 rfl rfl, fun U hU hW => ⟨rfl, xP_of hU hW hP hK hD hX hS (fun _ h => h) hA⟩⟩ rfl rfl hl.1 rfl (lv_room (Nat.le_of_ble_eq_true rfl)) dX12_ask_125 ⟨(Nat.le_of_ble_eq_true rfl), (Nat.le_of_ble_eq_true rfl)⟩) hD hS hA (fun v_59 H locs w_57 hP hK hD hS => ?_)
      obtain ⟨I_61, f_60⟩ := w_57
      have hP : va_P (dC, dI) vwCl (xG L cid K N v_59) H := hP
      have hD : va_D A (xG L cid K N v_59) := hD
      refine lv_aload_n hx hb dX12_ask_128 rfl (lv_at hl 1 rfl) ?_
      refine gx_RX12_19 (y := v p0 3) hx hb hj hown hK hP q0 ((xf_12_3 I_61 q0).1) (((fr_use q0 f_60 rfl)).trans (((fr_use q0 f_53 rfl)).trans (((fr_use q0 f_46 rfl)).trans (((fr_use q0 f_39 rfl)).trans (((fr_use q0 f_28 rfl)).trans (((fr_use q0 f_18 rfl)).trans (fr_use q0 f_11 rfl))))))) dX12_ask_129 ?_
      refine lv_bipush (v := iI 7) hx hb dX12_ask_132 rfl ?_
      refine lv_iload_n hx hb dX12_ask_134 rfl (lv_at hl 3 rfl) ?_
      refine jcg_v (va_runV (As := [.int (iI 7), .int (iI p2)]) (rest := []) ⟨hx, hb, hml, hown, hts⟩ (sX8_name l dC dI _ L cid K N tW sK sV v_59 (v p0 3) 7 p2 I_61 h_5 (by omega) (by omega)) (cwV 2 hts (jgoodV m_1068 m_1069 m_1070 m_928 m_1071) rfl rfl rfl (by decide +kernel) ⟨(Nat.le_of_ble_eq_true rfl), (Nat.le_of_ble_eq_true rfl)⟩) ⟨xP_blind, xrecv hK hP h_5 rfl rfl, fun U hU hW => ⟨rfl, xP_of hU hW hP hK hD hX hS (fun _ h => h) hA⟩⟩ rfl rfl hl.1 rfl (lv_room (Nat.le_of_ble_eq_true rfl)) dX12_ask_135 ⟨(Nat.le_of_ble_eq_true rfl), (Nat.le_of_ble_eq_true rfl)⟩) hD hS hA (fun v_65 H locs w_63 hP hK hD hS => ?_)
      obtain ⟨I_67, f_66⟩ := w_63
      have hP : va_P (dC, dI) vwCl (xG L cid K N v_65) H := hP
      have hD : va_D A (xG L cid K N v_65) := hD
      refine lv_aload_n hx hb dX12_ask_138 rfl (lv_at hl 1 rfl) ?_
      refine gx_RX12_19 (y := v p0 3) hx hb hj hown hK hP q0 ((xf_12_3 I_67 q0).1) (((fr_use q0 f_66 rfl)).trans (((fr_use q0 f_60 rfl)).trans (((fr_use q0 f_53 rfl)).trans (((fr_use q0 f_46 rfl)).trans (((fr_use q0 f_39 rfl)).trans (((fr_use q0 f_28 rfl)).trans (((fr_use q0 f_18 rfl)).trans (fr_use q0 f_11 rfl)))))))) dX12_ask_139 ?_
      refine lv_bipush (v := iI 8) hx hb dX12_ask_142 rfl ?_
      refine xq_aload hx hb dX12_ask_144 (lv_at hl 0 rfl) ?_
      have J158 : ∀ (s0_158 : Int) (H : Heap) (locs : List Loc) (ls : Array Slot), ((-2147483648) ≤ s0_158 ∧ s0_158 ≤ 2147483647) → va_P (dC, dI) vwCl (xG L cid K N v_65) H → va_D A (xG L cid K N v_65) → va_S A s.heap H locs → lv_has ls 5 [(4, rv z_3), (0, .ref p0.toNat), (1, .ref p1.toNat), (2, .int (iI p2)), (3, .int (iI p3))] → W p l e ({ frames := 2, cells := 0, slots := 0, locals := 45 }) s m ([.ref p0.toNat, .ref p1.toNat, .int (iI p2), .int (iI p3)] : List Value).toArray below meth c H locs 0 0 Q (F0 m 158 ls [.int (iI s0_158), .int (iI 8), .ref (v p0 3).toNat]) := by
        intro s0_158 H locs ls h_68 hP hD hS hl
        refine jcg_v (va_runV (As := [.int (iI 8), .int (iI s0_158)]) (rest := []) ⟨hx, hb, hml, hown, hts⟩ (sX8_name l dC dI _ L cid K N tW sK sV v_65 (v p0 3) 8 s0_158 I_67 h_5 (by omega) (by omega)) (cwV 2 hts (jgoodV m_1068 m_1069 m_1070 m_928 m_1071) rfl rfl rfl (by decide +kernel) ⟨(Nat.le_of_ble_eq_true rfl), (Nat.le_of_ble_eq_true rfl)⟩) ⟨xP_blind, xrecv hK hP h_5 rfl rfl, fun U hU hW => ⟨rfl, xP_of hU hW hP hK hD hX hS (fun _ h => h) hA⟩⟩ rfl rfl hl.1 rfl (lv_room (Nat.le_of_ble_eq_true rfl)) dX12_ask_158 ⟨(Nat.le_of_ble_eq_true rfl), (Nat.le_of_ble_eq_true rfl)⟩) hD hS hA (fun v_72 H locs w_70 hP hK hD hS => ?_)
        obtain ⟨I_74, f_73⟩ := w_70
        have hP : va_P (dC, dI) vwCl (xG L cid K N v_72) H := hP
        have hD : va_D A (xG L cid K N v_72) := hD
        rw [← hQ]
        exact W.vret hx hb hr (fun t ht hW => ⟨⟨v_72, rfl, ⟨I_74, (fr_tr f_73 rfl (fr_tr f_66 rfl (fr_tr f_60 rfl (fr_tr f_53 rfl (fr_tr f_46 rfl (fr_tr f_39 rfl (fr_tr f_28 rfl (fr_tr f_18 rfl (fr_tr f_11 rfl fr_rf)))))))))⟩, by rw [ht]; exact hP, va_K.moved hW.alike hK, hD⟩, hS.F ht⟩) hS.2.2 dX12_ask_161
      refine xq_ifnonnull (tgt := 153) hx hb dX12_ask_146 (by decide) (fun h_75 => ?_) (fun h_75 => ?_)
      · have h_76 : ok L K z_3 2 := h_4.resolve_left (by omega)
        refine lv_aload_n hx hb dX12_ask_153 rfl (lv_at hl 1 rfl) ?_
        refine lv_iload_n hx hb dX12_ask_154 rfl (lv_at hl 4 rfl) ?_
        refine jc_i (va_runV (As := [.int (iI p3)]) (rest := [.int (iI 8), .ref (v p0 3).toNat]) ⟨hx, hb, hml, hown, hts⟩ (sX12_unfinished l dC dI _ L cid K N tW sK sV v_65 p0 p3 I_67 q0 (by omega)) (cwV 1 hts (jgoodV m_1080 m_1081 m_1082 m_873 m_1083) rfl rfl rfl (by decide +kernel) ⟨(Nat.le_of_ble_eq_true rfl), (Nat.le_of_ble_eq_true rfl)⟩) ⟨xP_blind, xrecv hK hP q0 rfl rfl, fun U hU hW => ⟨rfl, xP_of hU hW hP hK hD hX hS (fun _ h => h) hA⟩⟩ rfl rfl hl.1 rfl (lv_room (Nat.le_of_ble_eq_true rfl)) dX12_ask_155 ⟨(Nat.le_of_ble_eq_true rfl), (Nat.le_of_ble_eq_true rfl)⟩) hP hS hA (fun r_77 H locs w_78 hP hS => ?_)
        obtain ⟨z_79, rfl, h_80⟩ := w_78
        exact J158 z_79 H locs ls (by omega) hP hD hS hl
      · refine lv_iconst (v := iI 0) hx hb dX12_ask_149 rfl ?_
        refine lv_goto (tgt := 158) hx hb dX12_ask_150 (by decide) ?_
        exact J158 0 H locs ls (by omega) hP hD hS hl
    refine xq_ifnonnull (tgt := 111) hx hb dX12_ask_104 (by decide) (fun h_81 => ?_) (fun h_81 => ?_)
    · have h_82 : ok L K z_3 2 := h_4.resolve_left (by omega)
      refine lv_aload_n hx hb dX12_ask_111 rfl (lv_at hl 1 rfl) ?_
      have h_83 : 0 ≤ v p0 0 ∧ v p0 0 ≤ 2000 := xf_12_0 hI q0
      refine gx_RX12_133 (y := v p0 0) hx hb hj hown hK hP q0 (((fr_use q0 f_53 rfl)).trans (((fr_use q0 f_46 rfl)).trans (((fr_use q0 f_39 rfl)).trans (((fr_use q0 f_28 rfl)).trans (((fr_use q0 f_18 rfl)).trans (fr_use q0 f_11 rfl)))))) dX12_ask_112 ?_
      refine xq_aload hx hb dX12_ask_115 (lv_at hl 0 rfl) ?_
      refine jt_q (.ref z_3.toNat) (rv_ref (h_82).1) ?_
      have h_84 : (-2147483648) ≤ v z_3 2 ∧ v z_3 2 ≤ 2147483647 := xf_2_2 hI h_82
      refine gx_RX12_361 (y := v z_3 2) hx hb hj hown hK hP h_82 (((fr_use h_82 f_53 rfl)).trans (((fr_use h_82 f_46 rfl)).trans (((fr_use h_82 f_39 rfl)).trans (((fr_use h_82 f_28 rfl)).trans (((fr_use h_82 f_18 rfl)).trans (fr_use h_82 f_11 rfl)))))) dX12_ask_117 ?_
      refine xr_sub hx hb dX12_ask_120 ?_
      refine xr_kept (fun z_85 h_86 h_87 => ?_)
      refine lv_sipush (v := iI 365) hx hb dX12_ask_121 rfl ?_
      refine xr_divA hx hb dX12_ask_124 (by omega) (by omega) (fun z_88 h_89 => ?_)
      exact J125 z_88 H locs ls (by omega) hP hD hS hl
    · refine lv_iconst (v := iI 0) hx hb dX12_ask_107 rfl ?_
      refine lv_goto (tgt := 125) hx hb dX12_ask_108 (by decide) ?_
      exact J125 0 H locs ls (by omega) hP hD hS hl
  refine xq_ifnonnull (tgt := 88) hx hb dX12_ask_81 (by decide) (fun h_90 => ?_) (fun h_90 => ?_)
  · have h_91 : ok L K z_3 2 := h_4.resolve_left (by omega)
    refine xq_aload hx hb dX12_ask_88 (lv_at hl 0 rfl) ?_
    refine jt_q (.ref z_3.toNat) (rv_ref (h_91).1) ?_
    have h_92 : (-2147483648) ≤ v z_3 1 ∧ v z_3 1 ≤ 2147483647 := xf_2_1 hI h_91
    refine gx_RX12_358 (y := v z_3 1) hx hb hj hown hK hP h_91 (((fr_use h_91 f_46 rfl)).trans (((fr_use h_91 f_39 rfl)).trans (((fr_use h_91 f_28 rfl)).trans (((fr_use h_91 f_18 rfl)).trans (fr_use h_91 f_11 rfl))))) dX12_ask_90 ?_
    exact J93 (v z_3 1) H locs ls (by omega) hP hD hS hl
  · refine lv_iconst (v := iI 0) hx hb dX12_ask_84 rfl ?_
    refine lv_goto (tgt := 93) hx hb dX12_ask_85 (by decide) ?_
    exact J93 0 H locs ls (by omega) hP hD hS hl
