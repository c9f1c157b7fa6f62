set_option maxHeartbeats 2000000 in
set_option maxRecDepth 100000 in
theorem sX12_lineAt (l : Launch) (dC : Nat → ClassId) (dI : Nat → Nat → Nat) (sz : Nat) (L : List Nat) (cid : Nat → ClassId) (K : Int → Nat) (N : Int → Int) (tW : Nat) (sK sV : Nat → Nat) (v : Int → Int → Int) (p0 : Int) (p1 : Int) (hI : xI L K N v) (q0 : ok L K p0 12) (q1 : rg p1) : Met l yX12_lineAt (jk yX12_lineAt cX12_lineAt 2 (some (.object "BookOfAll$Line"))) ({ frames := 0, cells := 0, slots := 0, locals := 0 }) (va_Pc [.ref p0.toNat, .int (iI p1)] (xP (dC, dI) (xG L cid K N v) (xT cid) tW sK sV sz)) (va_Qq (fun (r : Option Nat) (_ : Unit) => ∃ z : Int, r = opt z ∧ (z < 0 ∨ ok L K z 4)) (fun _ _ => True) (va_A [] sz)) 0 0 (va_A [] sz) := by
  refine Met.ofW (cc := cX12_lineAt) (maxL := 2) (ret := (some (.object "BookOfAll$Line"))) (by decide) rfl ?_
  intro p e s m args below meth c s₁ B hml hv
  obtain ⟨rfl, ⟨hsz, hP, hK, hD0⟩, hX⟩ := hv
  have hx := B.exec
  have hb := B.bytes
  have hr := B.returns
  have hts := atoms_spec (ws := (jk yX12_lineAt cX12_lineAt 2 (some (.object "BookOfAll$Line")))) B.pre
  have hj : ∀ w ∈ jw, w.before ([.ref p0.toNat, .int (iI p1)] : List Value).toArray s = true := fun w h => hts w (jm h)
  have hown : s.vm.findClass RX12 = some m.cls := findClass_of_methodNamed B.named
  subst hsz
  have hDw := hD0.self (sz := s.heap.size)
  have hAA : ∀ q : Nat, s.heap.size ≤ q → va_A (xG L cid K N v) s.heap.size q := fun q h => Or.inr h
  have hAw : ∀ q, va_A [] s.heap.size q → va_A (xG L cid K N v) s.heap.size q := ja_nil va_S.rf hAA
  generalize hAe : (va_A [] s.heap.size) = A at hAw ⊢
  have hA : ∀ q : Nat, s.heap.size ≤ q → A q := fun q h => by rw [← hAe]; exact Or.inr h
  have hS : va_S A s.heap s.heap [] := va_S.rf
  have hXa := hX.nar hAw
  have hP : va_P (dC, dI) vwCl (xG L cid K N v) s.heap := hP
  have hl := lv_entry ([.ref p0.toNat, .int (iI p1)]) (n := 2) (Nat.le_of_ble_eq_true rfl)
  rw [lg_entry_eq]
  generalize (lg_sl ([.ref p0.toNat, .int (iI p1)]) ++ List.replicate (2 - (lg_sl ([.ref p0.toNat, .int (iI p1)])).length) Slot.unset).toArray = ls at hl ⊢
  have hl : lv_has ls 2 [(0, .ref p0.toNat), (1, .int (iI p1))] := hl
  generalize hQ : MQ below (va_Qq (fun (r : Option Nat) (_ : Unit) => ∃ z : Int, r = opt z ∧ (z < 0 ∨ ok L K z 4)) (fun _ _ => True) A) ([.ref p0.toNat, .int (iI p1)] : List Value).toArray s 0 0 A = Q
  suffices ST : ∀ (H : Heap) (locs : List Loc), va_P (dC, dI) vwCl (xG L cid K N v) H → va_S A s.heap H locs → W p l e ({ frames := 0, cells := 0, slots := 0, locals := 0 }) s m ([.ref p0.toNat, .int (iI p1)] : List Value).toArray below meth c H locs 0 0 Q (F0 m 0 ls []) from ST _ _ hP hS
  clear hP hS
  intro H locs hP hS
  refine lv_iload_n hx hb dX12_lineAt_0 rfl (lv_at hl 1 rfl) ?_
  refine xr_if_lt (tgt := 28) hx hb dX12_lineAt_1 (by decide) (by omega) (fun h_1 => ?_) (fun h_1 => ?_)
  · refine lv_null hx hb dX12_lineAt_28 ?_
    refine jt_q (rv (-1)) rv_nul ?_
    rw [← hQ]
    exact W.aret (v := rv (-1)) hx hb hr (Or.inl ⟨_, rfl⟩) (rv_or (-1)) (fun t ht hW => ⟨⟨opt (-1), (), rfl, ⟨-1, rfl, (Or.inl (by decide))⟩, trivial⟩, hS.F ht⟩) hS.2.2 dX12_lineAt_29
  · refine lv_iload_n hx hb dX12_lineAt_4 rfl (lv_at hl 1 rfl) ?_
    refine lv_aload_n hx hb dX12_lineAt_5 rfl (lv_at hl 0 rfl) ?_
    have h_2 : 0 ≤ v p0 13 ∧ v p0 13 ≤ 300 := xf_12_13 hI q0
    refine gx_RX12_370 (y := v p0 13) hx hb hj hown hK hP q0 rfl dX12_lineAt_6 ?_
    refine xr_icmp_ge (tgt := 28) hx hb dX12_lineAt_9 (by decide) (by omega) (by omega) (fun h_3 => ?_) (fun h_3 => ?_)
    · refine lv_null hx hb dX12_lineAt_28 ?_
      refine jt_q (rv (-1)) rv_nul ?_
      rw [← hQ]
      exact W.aret (v := rv (-1)) hx hb hr (Or.inl ⟨_, rfl⟩) (rv_or (-1)) (fun t ht hW => ⟨⟨opt (-1), (), rfl, ⟨-1, rfl, (Or.inl (by decide))⟩, trivial⟩, hS.F ht⟩) hS.2.2 dX12_lineAt_29
    · refine lv_iload_n hx hb dX12_lineAt_12 rfl (lv_at hl 1 rfl) ?_
      refine lv_sipush (v := iI 300) hx hb dX12_lineAt_13 rfl ?_
      refine xr_icmp_ge (tgt := 28) hx hb dX12_lineAt_16 (by decide) (by omega) (by omega) (fun h_4 => ?_) (fun h_4 => ?_)
      · exfalso; omega
      · refine lv_aload_n hx hb dX12_lineAt_19 rfl (lv_at hl 0 rfl) ?_
        have h_5 : ok L K (v p0 12) 39 := xf_12_12 hI q0
        have h_6 : N (v p0 12) = 300 := xn_39 hI h_5
        refine gx_RX12_59 (y := v p0 12) hx hb hj hown hK hP q0 ((xf_12_12 hI q0).1) rfl dX12_lineAt_20 ?_
        refine lv_iload_n hx hb dX12_lineAt_23 rfl (lv_at hl 1 rfl) ?_
        have h_7 : v (v p0 12) p1 < 0 ∨ ok L K (v (v p0 12) p1) 4 := xe_39 hI h_5 (by omega)
        refine ax_39 (y := v (v p0 12) p1) hx hb hK hP h_5 (by omega) (by omega) (by omega) rfl dX12_lineAt_24 ?_
        refine lv_goto (tgt := 29) hx hb dX12_lineAt_25 (by decide) ?_
        rw [← hQ]
        exact W.aret (v := rv (v (v p0 12) p1)) hx hb hr (Or.inl ⟨_, rfl⟩) (rv_or (v (v p0 12) p1)) (fun t ht hW => ⟨⟨opt (v (v p0 12) p1), (), rfl, ⟨v (v p0 12) p1, rfl, h_7⟩, trivial⟩, hS.F ht⟩) hS.2.2 dX12_lineAt_29
set_option maxHeartbeats 2000000 in
set_option maxRecDepth 100000 in
theorem sX12_canLean (l : Launch) (dC : Nat → ClassId) (dI : Nat → Nat → Nat) (sz : Nat) (L : List Nat) (cid : Nat → ClassId) (K : Int → Nat) (N : Int → Int) (tW : Nat) (sK sV : Nat → Nat) (v : Int → Int → Int) (p0 : Int) (p1 : Int) (hI : xI L K N v) (q0 : ok L K p0 12) (q1 : rg p1) : Met l yX12_canLean (jk yX12_canLean cX12_canLean 2 (some .boolean)) ({ frames := 2, cells := 0, slots := 0, locals := 47 }) (va_Pc [.ref p0.toNat, .int (iI p1)] (xP (dC, dI) (xG L cid K N v) (xT cid) tW sK sV sz)) (va_Qi (fun (r : Int32) (_ : Unit) => ∃ z : Int, r = iI z ∧ (0 ≤ z ∧ z ≤ 1)) (fun _ _ => True) (va_A [] sz)) 0 0 (va_A [] sz) := by
  refine Met.ofW (cc := cX12_canLean) (maxL := 2) (ret := (some .boolean)) (by decide) rfl ?_
  intro p e s m args below meth c s₁ B hml hv
  obtain ⟨rfl, ⟨hsz, hP, hK, hD0⟩, hX⟩ := hv
  have hx := B.exec
  have hb := B.bytes
  have hr := B.returns
  have hts := atoms_spec (ws := (jk yX12_canLean cX12_canLean 2 (some .boolean))) B.pre
  have hj : ∀ w ∈ jw, w.before ([.ref p0.toNat, .int (iI p1)] : List Value).toArray s = true := fun w h => hts w (jm h)
  have hown : s.vm.findClass RX12 = some m.cls := findClass_of_methodNamed B.named
  subst hsz
  have hDw := hD0.self (sz := s.heap.size)
  have hAA : ∀ q : Nat, s.heap.size ≤ q → va_A (xG L cid K N v) s.heap.size q := fun q h => Or.inr h
  have hAw : ∀ q, va_A [] s.heap.size q → va_A (xG L cid K N v) s.heap.size q := ja_nil va_S.rf hAA
  generalize hAe : (va_A [] s.heap.size) = A at hAw ⊢
  have hA : ∀ q : Nat, s.heap.size ≤ q → A q := fun q h => by rw [← hAe]; exact Or.inr h
  have hS : va_S A s.heap s.heap [] := va_S.rf
  have hXa := hX.nar hAw
  have hP : va_P (dC, dI) vwCl (xG L cid K N v) s.heap := hP
  have hl := lv_entry ([.ref p0.toNat, .int (iI p1)]) (n := 2) (Nat.le_of_ble_eq_true rfl)
  rw [lg_entry_eq]
  generalize (lg_sl ([.ref p0.toNat, .int (iI p1)]) ++ List.replicate (2 - (lg_sl ([.ref p0.toNat, .int (iI p1)])).length) Slot.unset).toArray = ls at hl ⊢
  have hl : lv_has ls 2 [(0, .ref p0.toNat), (1, .int (iI p1))] := hl
  generalize hQ : MQ below (va_Qi (fun (r : Int32) (_ : Unit) => ∃ z : Int, r = iI z ∧ (0 ≤ z ∧ z ≤ 1)) (fun _ _ => True) A) ([.ref p0.toNat, .int (iI p1)] : List Value).toArray s 0 0 A = Q
  suffices ST : ∀ (H : Heap) (locs : List Loc), va_P (dC, dI) vwCl (xG L cid K N v) H → va_S A s.heap H locs → W p l e ({ frames := 2, cells := 0, slots := 0, locals := 47 }) s m ([.ref p0.toNat, .int (iI p1)] : List Value).toArray below meth c H locs 0 0 Q (F0 m 0 ls []) from ST _ _ hP hS
  clear hP hS
  intro H locs hP hS
  refine lv_iload_n hx hb dX12_canLean_0 rfl (lv_at hl 1 rfl) ?_
  refine lv_iconst (v := iI (-1)) hx hb dX12_canLean_1 rfl ?_
  refine xr_icmp_eq (tgt := 32) hx hb dX12_canLean_2 (by decide) (by omega) (by omega) (fun h_1 => ?_) (fun h_1 => ?_)
  · refine lv_iconst (v := iI 1) hx hb dX12_canLean_32 rfl ?_
    refine lv_goto (tgt := 37) hx hb dX12_canLean_33 (by decide) ?_
    rw [← hQ]
    exact W.zret (v := iI 1) (ty := .boolean) hx hb hr (nb_bool (by omega) (by omega)) (fun t ht hW => ⟨⟨iI 1, (), rfl, ⟨1, rfl, by omega⟩, trivial⟩, hS.F ht⟩) hS.2.2 dX12_canLean_37
  · refine lv_aload_n hx hb dX12_canLean_5 rfl (lv_at hl 0 rfl) ?_
    have h_2 : ok L K (v p0 14) 5 := xf_12_14 hI q0
    refine gx_RX12_66 (y := v p0 14) hx hb hj hown hK hP q0 ((xf_12_14 hI q0).1) rfl dX12_canLean_6 ?_
    refine lv_iload_n hx hb dX12_canLean_9 rfl (lv_at hl 1 rfl) ?_
    refine lv_aload_n hx hb dX12_canLean_10 rfl (lv_at hl 0 rfl) ?_
    have h_3 : 0 ≤ v p0 0 ∧ v p0 0 ≤ 2000 := xf_12_0 hI q0
    refine gx_RX12_133 (y := v p0 0) hx hb hj hown hK hP q0 rfl dX12_canLean_11 ?_
    refine jc_i (va_runV (As := [.int (iI p1), .int (iI (v p0 0))]) (rest := []) ⟨hx, hb, hml, hown, hts⟩ (sX5_valueOn l dC dI _ L cid K N tW sK sV v (v p0 14) p1 (v p0 0) hI h_2 (by omega) (by omega)) (cwV 2 hts (jgoodV m_1105 m_1106 m_1107 m_923 m_1108) rfl rfl rfl (by decide +kernel) ⟨(Nat.le_of_ble_eq_true rfl), (Nat.le_of_ble_eq_true rfl)⟩) ⟨xP_blind, xrecv hK hP h_2 rfl rfl, fun U hU hW => ⟨rfl, xP_of hU hW hP hK hDw hX hS hAw hAA⟩⟩ rfl rfl hl.1 rfl (lv_room (Nat.le_of_ble_eq_true rfl)) dX12_canLean_14 ⟨(Nat.le_of_ble_eq_true rfl), (Nat.le_of_ble_eq_true rfl)⟩) hP hS hA (fun r_4 H locs w_5 hP hS => ?_)
    obtain ⟨z_6, rfl, h_7, h_8⟩ := w_5
    refine lv_iconst (v := iI (-1)) hx hb dX12_canLean_17 rfl ?_
    refine xr_icmp_ne (tgt := 32) hx hb dX12_canLean_18 (by decide) (by omega) (by omega) (fun h_9 => ?_) (fun h_9 => ?_)
    · refine lv_iconst (v := iI 1) hx hb dX12_canLean_32 rfl ?_
      refine lv_goto (tgt := 37) hx hb dX12_canLean_33 (by decide) ?_
      rw [← hQ]
      exact W.zret (v := iI 1) (ty := .boolean) hx hb hr (nb_bool (by omega) (by omega)) (fun t ht hW => ⟨⟨iI 1, (), rfl, ⟨1, rfl, by omega⟩, trivial⟩, hS.F ht⟩) hS.2.2 dX12_canLean_37
    · refine lv_aload_n hx hb dX12_canLean_21 rfl (lv_at hl 0 rfl) ?_
      refine lv_iload_n hx hb dX12_canLean_22 rfl (lv_at hl 1 rfl) ?_
      refine lv_bipush (v := iI 100) hx hb dX12_canLean_23 rfl ?_
      refine xr_sub hx hb dX12_canLean_25 ?_
      refine xr_kept (fun z_10 h_11 h_12 => ?_)
      refine jc_q (va_runV (As := [.int (iI z_10)]) (rest := []) ⟨hx, hb, hml, hown, hts⟩ (sX12_lineAt l dC dI _ L cid K N tW sK sV v p0 z_10 hI q0 (by omega)) (cwV 1 hts (jgoodV m_1109 m_1110 m_1111 m_873 m_1112) rfl rfl rfl (by decide +kernel) ⟨(Nat.le_of_ble_eq_true rfl), (Nat.le_of_ble_eq_true rfl)⟩) ⟨xP_blind, xrecv hK hP q0 rfl rfl, fun U hU hW => ⟨rfl, xP_of hU hW hP hK hDw hX hS hAw hAA⟩⟩ rfl rfl hl.1 rfl (lv_room (Nat.le_of_ble_eq_true rfl)) dX12_canLean_26 ⟨(Nat.le_of_ble_eq_true rfl), (Nat.le_of_ble_eq_true rfl)⟩) hP hS hA (fun r_13 H locs w_14 hP hS => ?_)
      obtain ⟨z_15, rfl, h_16⟩ := w_14
      refine jt_q (rv z_15) rfl ?_
      refine xq_ifnull (tgt := 36) hx hb dX12_canLean_29 (by decide) (fun h_17 => ?_) (fun h_17 => ?_)
      · refine lv_iconst (v := iI 0) hx hb dX12_canLean_36 rfl ?_
        rw [← hQ]
        exact W.zret (v := iI 0) (ty := .boolean) hx hb hr (nb_bool (by omega) (by omega)) (fun t ht hW => ⟨⟨iI 0, (), rfl, ⟨0, rfl, by omega⟩, trivial⟩, hS.F ht⟩) hS.2.2 dX12_canLean_37
      · have h_18 : ok L K z_15 4 := h_16.resolve_left (by omega)
        refine lv_iconst (v := iI 1) hx hb dX12_canLean_32 rfl ?_
        refine lv_goto (tgt := 37) hx hb dX12_canLean_33 (by decide) ?_
        rw [← hQ]
        exact W.zret (v := iI 1) (ty := .boolean) hx hb hr (nb_bool (by omega) (by omega)) (fun t ht hW => ⟨⟨iI 1, (), rfl, ⟨1, rfl, by omega⟩, trivial⟩, hS.F ht⟩) hS.2.2 dX12_canLean_37
set_option maxHeartbeats 2000000 in
set_option maxRecDepth 100000 in
theorem sX12_lean (l : Launch) (dC : Nat → ClassId) (dI : Nat → Nat → Nat) (sz : Nat) (L : List Nat) (cid : Nat → ClassId) (K : Int → Nat) (N : Int → Int) (tW : Nat) (sK sV : Nat → Nat) (v : Int → Int → Int) (p0 : Int) (p1 : Int) (p2 : Int) (hI : xI L K N v) (q0 : ok L K p0 12) (q1 : ok L K p1 4) (q2 : rg p2) : Met l yX12_lean (jk yX12_lean cX12_lean 4 none) ({ frames := 2, cells := 0, slots := 0, locals := 47 }) (va_Pc [.ref p0.toNat, .ref p1.toNat, .int (iI p2)] (xP (dC, dI) (xG L cid K N v) (xT cid) tW sK sV sz)) (va_Qv (fun (u : (Int → Int → Int)) => (xI L K N u) ∧ (fr K [(4, 3), (4, 4), (4, 5), (4, 6)] u v)) (fun u t => va_P (dC, dI) vwCl (xG L cid K N u) t.heap ∧ va_K (dC, dI) vwCl (xT cid) t ∧ va_D (va_A (xG L cid K N v) sz) (xG L cid K N u)) (va_A (xG L cid K N v) sz)) 0 0 (va_A (xG L cid K N v) sz) := by
  refine Met.ofW (cc := cX12_lean) (maxL := 4) (ret := none) (by decide) rfl ?_
  intro p e s m args below meth c s₁ B hml hv
  obtain ⟨rfl, ⟨hsz, hP, hK, hD0⟩, hX⟩ := hv
  have hx := B.exec
  have hb := B.bytes
  have hr := B.returns
  have hts := atoms_spec (ws := (jk yX12_lean cX12_lean 4 none)) B.pre
  have hj : ∀ w ∈ jw, w.before ([.ref p0.toNat, .ref p1.toNat, .int (iI p2)] : List Value).toArray s = true := fun w h => hts w (jm h)
  have hown : s.vm.findClass RX12 = some m.cls := findClass_of_methodNamed B.named
  subst hsz
  have hD := hD0.self (sz := s.heap.size)
  generalize hAe : (va_A (xG L cid K N v) s.heap.size) = A at hD hX ⊢
  have hA : ∀ q : Nat, s.heap.size ≤ q → A q := fun q h => by rw [← hAe]; exact Or.inr h
  have hS : va_S A s.heap s.heap [] := va_S.rf
  have hXa := hX
  have hP : va_P (dC, dI) vwCl (xG L cid K N v) s.heap := hP
  have hl := lv_entry ([.ref p0.toNat, .ref p1.toNat, .int (iI p2)]) (n := 4) (Nat.le_of_ble_eq_true rfl)
  rw [lg_entry_eq]
  generalize (lg_sl ([.ref p0.toNat, .ref p1.toNat, .int (iI p2)]) ++ List.replicate (4 - (lg_sl ([.ref p0.toNat, .ref p1.toNat, .int (iI p2)])).length) Slot.unset).toArray = ls at hl ⊢
  have hl : lv_has ls 4 [(0, .ref p0.toNat), (1, .ref p1.toNat), (2, .int (iI p2))] := hl
  generalize hQ : MQ below (va_Qv (fun (u : (Int → Int → Int)) => (xI L K N u) ∧ (fr K [(4, 3), (4, 4), (4, 5), (4, 6)] u v)) (fun u t => va_P (dC, dI) vwCl (xG L cid K N u) t.heap ∧ va_K (dC, dI) vwCl (xT cid) t ∧ va_D A (xG L cid K N u)) A) ([.ref p0.toNat, .ref p1.toNat, .int (iI p2)] : List Value).toArray s 0 0 A = Q
  suffices ST : ∀ (H : Heap) (locs : List Loc), va_P (dC, dI) vwCl (xG L cid K N v) H → va_S A s.heap H locs → W p l e ({ frames := 2, cells := 0, slots := 0, locals := 47 }) s m ([.ref p0.toNat, .ref p1.toNat, .int (iI p2)] : List Value).toArray below meth c H locs 0 0 Q (F0 m 0 ls []) from ST _ _ hP hS
  clear hP hS
  intro H locs hP hS
  refine lv_aload_n hx hb dX12_lean_0 rfl (lv_at hl 0 rfl) ?_
  refine lv_iload_n hx hb dX12_lean_1 rfl (lv_at hl 2 rfl) ?_
  refine lv_bipush (v := iI 100) hx hb dX12_lean_2 rfl ?_
  refine xr_sub hx hb dX12_lean_4 ?_
  refine xr_kept (fun z_1 h_2 h_3 => ?_)
  refine jc_q (va_runV (As := [.int (iI z_1)]) (rest := []) ⟨hx, hb, hml, hown, hts⟩ (sX12_lineAt l dC dI _ L cid K N tW sK sV v p0 z_1 hI q0 (by omega)) (cwV 1 hts (jgoodV m_1109 m_1110 m_1111 m_873 m_1112) rfl rfl rfl (by decide +kernel) ⟨(Nat.le_of_ble_eq_true rfl), (Nat.le_of_ble_eq_true rfl)⟩) ⟨xP_blind, xrecv hK hP q0 rfl rfl, fun U hU hW => ⟨rfl, xP_of hU hW hP hK hD hX hS (fun _ h => h) hA⟩⟩ rfl rfl hl.1 rfl (lv_room (Nat.le_of_ble_eq_true rfl)) dX12_lean_5 ⟨(Nat.le_of_ble_eq_true rfl), (Nat.le_of_ble_eq_true rfl)⟩) hP hS hA (fun r_4 H locs w_5 hP hS => ?_)
  obtain ⟨z_6, rfl, h_7⟩ := w_5
  refine jt_q (rv z_6) rfl ?_
  refine xq_astore_n (i := 3) (lv' := [(3, rv z_6), (0, .ref p0.toNat), (1, .ref p1.toNat), (2, .int (iI p2))]) hx hb dX12_lean_8 rfl hl (by decide) rfl (fun ls hl => ?_)
  refine lv_iload_n hx hb dX12_lean_9 rfl (lv_at hl 3 rfl) ?_
  refine lv_iconst (v := iI (-1)) hx hb dX12_lean_10 rfl ?_
  refine xr_icmp_ne (tgt := 22) hx hb dX12_lean_11 (by decide) (by omega) (by omega) (fun h_8 => ?_) (fun h_8 => ?_)
  · refine xq_aload_n hx hb dX12_lean_22 rfl (lv_at hl 0 rfl) ?_
    refine xq_ifnonnull (tgt := 58) hx hb dX12_lean_23 (by decide) (fun h_9 => ?_) (fun h_9 => ?_)
    · have h_10 : ok L K z_6 4 := h_7.resolve_left (by omega)
      refine lv_aload_n hx hb dX12_lean_58 rfl (lv_at hl 2 rfl) ?_
      refine lv_iload_n hx hb dX12_lean_59 rfl (lv_at hl 3 rfl) ?_
      refine lv_bipush (v := iI 100) hx hb dX12_lean_60 rfl ?_
      refine xr_sub hx hb dX12_lean_62 ?_
      refine xr_kept (fun z_11 h_12 h_13 => ?_)
      refine px_RX12_402 (y := z_11) hx hb hj hown hK hP hD hS hI q1 ⟨by omega, by omega⟩ dX12_lean_63 (fun v_14 H locs f_15 e_16 o_17 I_18 hP hD hS => ?_)
      refine lv_aload_n hx hb dX12_lean_66 rfl (lv_at hl 2 rfl) ?_
      refine xq_aload_n hx hb dX12_lean_67 rfl (lv_at hl 0 rfl) ?_
      refine jt_q (.ref z_6.toNat) (rv_ref (h_10).1) ?_
      have h_19 : (-2147483648) ≤ v z_6 5 ∧ v z_6 5 ≤ 2147483647 := xf_4_5 hI h_10
      refine gx_RX12_396 (y := v z_6 5) hx hb hj hown hK hP h_10 (fr_use h_10 f_15 rfl) dX12_lean_68 ?_
      refine px_RX12_396 (y := v z_6 5) hx hb hj hown hK hP hD hS I_18 q1 ⟨by omega, by omega⟩ dX12_lean_71 (fun v_20 H locs f_21 e_22 o_23 I_24 hP hD hS => ?_)
      rw [← hQ]
      exact W.vret hx hb hr (fun t ht hW => ⟨⟨v_20, rfl, ⟨I_24, (fr_tr f_21 rfl (fr_tr f_15 rfl fr_rf))⟩, by rw [ht]; exact hP, va_K.moved hW.alike hK, hD⟩, hS.F ht⟩) hS.2.2 dX12_lean_74
    · refine lv_aload_n hx hb dX12_lean_26 rfl (lv_at hl 2 rfl) ?_
      refine lv_iload_n hx hb dX12_lean_27 rfl (lv_at hl 3 rfl) ?_
      refine px_RX12_385 (y := p2) hx hb hj hown hK hP hD hS hI q1 ⟨by omega, by omega⟩ dX12_lean_28 (fun v_25 H locs f_26 e_27 o_28 I_29 hP hD hS => ?_)
      refine lv_aload_n hx hb dX12_lean_31 rfl (lv_at hl 2 rfl) ?_
      refine lv_aload_n hx hb dX12_lean_32 rfl (lv_at hl 1 rfl) ?_
      have h_30 : ok L K (v p0 14) 5 := xf_12_14 hI q0
      refine gx_RX12_66 (y := v p0 14) hx hb hj hown hK hP q0 ((xf_12_14 I_29 q0).1) (fr_use q0 f_26 rfl) dX12_lean_33 ?_
      refine lv_iload_n hx hb dX12_lean_36 rfl (lv_at hl 3 rfl) ?_
      refine lv_aload_n hx hb dX12_lean_37 rfl (lv_at hl 1 rfl) ?_
      have h_31 : 0 ≤ v p0 0 ∧ v p0 0 ≤ 2000 := xf_12_0 hI q0
      refine gx_RX12_133 (y := v p0 0) hx hb hj hown hK hP q0 (fr_use q0 f_26 rfl) dX12_lean_38 ?_
      refine jc_i (va_runV (As := [.int (iI p2), .int (iI (v p0 0))]) (rest := [.ref p1.toNat]) ⟨hx, hb, hml, hown, hts⟩ (sX5_valueOn l dC dI _ L cid K N tW sK sV v_25 (v p0 14) p2 (v p0 0) I_29 h_30 (by omega) (by omega)) (cwV 2 hts (jgoodV m_1105 m_1106 m_1107 m_923 m_1108) rfl rfl rfl (by decide +kernel) ⟨(Nat.le_of_ble_eq_true rfl), (Nat.le_of_ble_eq_true rfl)⟩) ⟨xP_blind, xrecv hK hP h_30 rfl rfl, fun U hU hW => ⟨rfl, xP_of hU hW hP hK hD hX hS (fun _ h => h) hA⟩⟩ rfl rfl hl.1 rfl (lv_room (Nat.le_of_ble_eq_true rfl)) dX12_lean_41 ⟨(Nat.le_of_ble_eq_true rfl), (Nat.le_of_ble_eq_true rfl)⟩) hP hS hA (fun r_32 H locs w_33 hP hS => ?_)
      obtain ⟨z_34, rfl, h_35, h_36⟩ := w_33
      refine px_RX12_399 (y := z_34) hx hb hj hown hK hP hD hS I_29 q1 ⟨by omega, by omega⟩ dX12_lean_44 (fun v_37 H locs f_38 e_39 o_40 I_41 hP hD hS => ?_)
      refine lv_aload_n hx hb dX12_lean_47 rfl (lv_at hl 2 rfl) ?_
      refine lv_aload_n hx hb dX12_lean_48 rfl (lv_at hl 1 rfl) ?_
      have h_42 : 0 ≤ v p0 13 ∧ v p0 13 ≤ 300 := xf_12_13 hI q0
      refine gx_RX12_370 (y := v p0 13) hx hb hj hown hK hP q0 (((fr_use q0 f_38 rfl)).trans (fr_use q0 f_26 rfl)) dX12_lean_49 ?_
      refine px_RX12_396 (y := v p0 13) hx hb hj hown hK hP hD hS I_41 q1 ⟨by omega, by omega⟩ dX12_lean_52 (fun v_43 H locs f_44 e_45 o_46 I_47 hP hD hS => ?_)
      refine lv_goto (tgt := 74) hx hb dX12_lean_55 (by decide) ?_
      rw [← hQ]
      exact W.vret hx hb hr (fun t ht hW => ⟨⟨v_43, rfl, ⟨I_47, (fr_tr f_44 rfl (fr_tr f_38 rfl (fr_tr f_26 rfl fr_rf)))⟩, by rw [ht]; exact hP, va_K.moved hW.alike hK, hD⟩, hS.F ht⟩) hS.2.2 dX12_lean_74
  · refine lv_aload_n hx hb dX12_lean_14 rfl (lv_at hl 2 rfl) ?_
    refine lv_iconst (v := iI (-1)) hx hb dX12_lean_15 rfl ?_
    refine px_RX12_396 (y := (-1)) hx hb hj hown hK hP hD hS hI q1 ⟨by omega, by omega⟩ dX12_lean_16 (fun v_48 H locs f_49 e_50 o_51 I_52 hP hD hS => ?_)
    refine lv_goto (tgt := 74) hx hb dX12_lean_19 (by decide) ?_
    rw [← hQ]
    exact W.vret hx hb hr (fun t ht hW => ⟨⟨v_48, rfl, ⟨I_52, (fr_tr f_49 rfl fr_rf)⟩, by rw [ht]; exact hP, va_K.moved hW.alike hK, hD⟩, hS.F ht⟩) hS.2.2 dX12_lean_74
set_option maxHeartbeats 2000000 in
set_option maxRecDepth 100000 in
theorem sX12_die (l : Launch) (dC : Nat → ClassId) (dI : Nat → Nat → Nat) (sz : Nat) (L : List Nat) (cid : Nat → ClassId) (K : Int → Nat) (N : Int → Int) (tW : Nat) (sK sV : Nat → Nat) (v : Int → Int → Int) (p0 : Int) (p1 : Int) (hI : xI L K N v) (q0 : ok L K p0 12) (q1 : rg p1) : Met l yX12_die (jk yX12_die cX12_die 3 (some .int)) ({ frames := 2, cells := 0, slots := 0, locals := 45 }) (va_Pc [.ref p0.toNat, .int (iI p1)] (xP (dC, dI) (xG L cid K N v) (xT cid) tW sK sV sz)) (va_Qi (fun (r : Int32) (u : (Int → Int → Int)) => ∃ z : Int, r = iI z ∧ (xI L K N u) ∧ (fr K [(2, 3)] u v) ∧ (rg z)) (fun u t => va_P (dC, dI) vwCl (xG L cid K N u) t.heap ∧ va_K (dC, dI) vwCl (xT cid) t ∧ va_D (va_A (xG L cid K N v) sz) (xG L cid K N u)) (va_A (xG L cid K N v) sz)) 0 0 (va_A (xG L cid K N v) sz) := by
  refine Met.ofW (cc := cX12_die) (maxL := 3) (ret := (some .int)) (by decide) rfl ?_
  intro p e s m args below meth c s₁ B hml hv
  obtain ⟨rfl, ⟨hsz, hP, hK, hD0⟩, hX⟩ := hv
  have hx := B.exec
  have hb := B.bytes
  have hr := B.returns
  have hts := atoms_spec (ws := (jk yX12_die cX12_die 3 (some .int))) B.pre
  have hj : ∀ w ∈ jw, w.before ([.ref p0.toNat, .int (iI p1)] : List Value).toArray s = true := fun w h => hts w (jm h)
  have hown : s.vm.findClass RX12 = some m.cls := findClass_of_methodNamed B.named
  subst hsz
  have hD := hD0.self (sz := s.heap.size)
  generalize hAe : (va_A (xG L cid K N v) s.heap.size) = A at hD hX ⊢
  have hA : ∀ q : Nat, s.heap.size ≤ q → A q := fun q h => by rw [← hAe]; exact Or.inr h
  have hS : va_S A s.heap s.heap [] := va_S.rf
  have hXa := hX
  have hP : va_P (dC, dI) vwCl (xG L cid K N v) s.heap := hP
  have hl := lv_entry ([.ref p0.toNat, .int (iI p1)]) (n := 3) (Nat.le_of_ble_eq_true rfl)
  rw [lg_entry_eq]
  generalize (lg_sl ([.ref p0.toNat, .int (iI p1)]) ++ List.replicate (3 - (lg_sl ([.ref p0.toNat, .int (iI p1)])).length) Slot.unset).toArray = ls at hl ⊢
  have hl : lv_has ls 3 [(0, .ref p0.toNat), (1, .int (iI p1))] := hl
  generalize hQ : MQ below (va_Qi (fun (r : Int32) (u : (Int → Int → Int)) => ∃ z : Int, r = iI z ∧ (xI L K N u) ∧ (fr K [(2, 3)] u v) ∧ (rg z)) (fun u t => va_P (dC, dI) vwCl (xG L cid K N u) t.heap ∧ va_K (dC, dI) vwCl (xT cid) t ∧ va_D A (xG L cid K N u)) A) ([.ref p0.toNat, .int (iI p1)] : List Value).toArray s 0 0 A = Q
  suffices ST : ∀ (H : Heap) (locs : List Loc), va_P (dC, dI) vwCl (xG L cid K N v) H → va_S A s.heap H locs → W p l e ({ frames := 2, cells := 0, slots := 0, locals := 45 }) s m ([.ref p0.toNat, .int (iI p1)] : List Value).toArray below meth c H locs 0 0 Q (F0 m 0 ls []) from ST _ _ hP hS
  clear hP hS
  intro H locs hP hS
  refine lv_aload_n hx hb dX12_die_0 rfl (lv_at hl 0 rfl) ?_
  refine lv_iload_n hx hb dX12_die_1 rfl (lv_at hl 1 rfl) ?_
  refine jc_q (va_runV (As := [.int (iI p1)]) (rest := []) ⟨hx, hb, hml, hown, hts⟩ (sX12_livingHandAt l dC dI _ L cid K N tW sK sV v p0 p1 hI q0 (by omega)) (cwV 1 hts (jgoodV m_1089 m_1090 m_1091 m_873 m_1092) rfl rfl rfl (by decide +kernel) ⟨(Nat.le_of_ble_eq_true rfl), (Nat.le_of_ble_eq_true rfl)⟩) ⟨xP_blind, xrecv hK hP q0 rfl rfl, fun U hU hW => ⟨rfl, xP_of hU hW hP hK hD hX hS (fun _ h => h) hA⟩⟩ rfl rfl hl.1 rfl (lv_room (Nat.le_of_ble_eq_true rfl)) dX12_die_2 ⟨(Nat.le_of_ble_eq_true rfl), (Nat.le_of_ble_eq_true rfl)⟩) hP hS hA (fun r_1 H locs w_2 hP hS => ?_)
  obtain ⟨z_3, rfl, h_4⟩ := w_2
  refine jt_q (rv z_3) rfl ?_
  refine xq_astore_n (i := 2) (lv' := [(2, rv z_3), (0, .ref p0.toNat), (1, .int (iI p1))]) hx hb dX12_die_5 rfl hl (by decide) rfl (fun ls hl => ?_)
  refine xq_aload_n hx hb dX12_die_6 rfl (lv_at hl 0 rfl) ?_
  refine xq_ifnonnull (tgt := 12) hx hb dX12_die_7 (by decide) (fun h_5 => ?_) (fun h_5 => ?_)
  · have h_6 : ok L K z_3 2 := h_4.resolve_left (by omega)
    refine xq_aload_n hx hb dX12_die_12 rfl (lv_at hl 0 rfl) ?_
    refine jt_q (.ref z_3.toNat) (rv_ref (h_6).1) ?_
    refine lv_iconst (v := iI 0) hx hb dX12_die_13 rfl ?_
    refine px_RX12_300 (y := 0) hx hb hj hown hK hP hD hS hI h_6 ⟨by omega, by omega⟩ dX12_die_14 (fun v_7 H locs f_8 e_9 o_10 I_11 hP hD hS => ?_)
    refine lv_aload_n hx hb dX12_die_17 rfl (lv_at hl 1 rfl) ?_
    refine lv_iload_n hx hb dX12_die_18 rfl (lv_at hl 2 rfl) ?_
    refine jc_i (va_runV (As := [.int (iI p1)]) (rest := []) ⟨hx, hb, hml, hown, hts⟩ (sX12_unfinished l dC dI _ L cid K N tW sK sV v_7 p0 p1 I_11 q0 (by omega)) (cwV 1 hts (jgoodV m_1080 m_1081 m_1082 m_873 m_1083) rfl rfl rfl (by decide +kernel) ⟨(Nat.le_of_ble_eq_true rfl), (Nat.le_of_ble_eq_true rfl)⟩) ⟨xP_blind, xrecv hK hP q0 rfl rfl, fun U hU hW => ⟨rfl, xP_of hU hW hP hK hD hX hS (fun _ h => h) hA⟩⟩ rfl rfl hl.1 rfl (lv_room (Nat.le_of_ble_eq_true rfl)) dX12_die_19 ⟨(Nat.le_of_ble_eq_true rfl), (Nat.le_of_ble_eq_true rfl)⟩) hP hS hA (fun r_12 H locs w_13 hP hS => ?_)
    obtain ⟨z_14, rfl, h_15⟩ := w_13
    rw [← hQ]
    exact W.iret (v := iI z_14) hx hb hr (fun t ht hW => ⟨⟨iI z_14, v_7, rfl, ⟨z_14, rfl, I_11, (fr_tr f_8 rfl fr_rf), by omega⟩, by rw [ht]; exact hP, va_K.moved hW.alike hK, hD⟩, hS.F ht⟩) hS.2.2 dX12_die_22
  · refine lv_iconst (v := iI (-1)) hx hb dX12_die_10 rfl ?_
    rw [← hQ]
    exact W.iret (v := iI (-1)) hx hb hr (fun t ht hW => ⟨⟨iI (-1), v, rfl, ⟨(-1), rfl, hI, fr_rf, by omega⟩, by rw [ht]; exact hP, va_K.moved hW.alike hK, hD⟩, hS.F ht⟩) hS.2.2 dX12_die_11
set_option maxHeartbeats 2000000 in
set_option maxRecDepth 100000 in
theorem sX12_hangs (l : Launch) (dC : Nat → ClassId) (dI : Nat → Nat → Nat) (sz : Nat) (L : List Nat) (cid : Nat → ClassId) (K : Int → Nat) (N : Int → Int) (tW : Nat) (sK sV : Nat → Nat) (v : Int → Int → Int) (p0 : Int) (p1 : Int) (hI : xI L K N v) (q0 : ok L K p0 12) (q1 : ok L K p1 0) : Met l yX12_hangs (jk yX12_hangs cX12_hangs 3 (some .boolean)) ({ frames := 1, cells := 0, slots := 0, locals := 21 }) (va_Pc [.ref p0.toNat, .ref p1.toNat] (xP (dC, dI) (xG L cid K N v) (xT cid) tW sK sV sz)) (va_Qi (fun (r : Int32) (_ : Unit) => ∃ z : Int, r = iI z ∧ (0 ≤ z ∧ z ≤ 1)) (fun _ _ => True) (va_A [] sz)) 0 0 (va_A [] sz) := by
  refine Met.ofW (cc := cX12_hangs) (maxL := 3) (ret := (some .boolean)) (by decide) rfl ?_
  intro p e s m args below meth c s₁ B hml hv
  obtain ⟨rfl, ⟨hsz, hP, hK, hD0⟩, hX⟩ := hv
  have hx := B.exec
  have hb := B.bytes
  have hr := B.returns
  have hts := atoms_spec (ws := (jk yX12_hangs cX12_hangs 3 (some .boolean))) B.pre
  have hj : ∀ w ∈ jw, w.before ([.ref p0.toNat, .ref p1.toNat] : List Value).toArray s = true := fun w h => hts w (jm h)
  have hown : s.vm.findClass RX12 = some m.cls := findClass_of_methodNamed B.named
  subst hsz
  have hDw := hD0.self (sz := s.heap.size)
  have hAA : ∀ q : Nat, s.heap.size ≤ q → va_A (xG L cid K N v) s.heap.size q := fun q h => Or.inr h
  have hAw : ∀ q, va_A [] s.heap.size q → va_A (xG L cid K N v) s.heap.size q := ja_nil va_S.rf hAA
  generalize hAe : (va_A [] s.heap.size) = A at hAw ⊢
  have hA : ∀ q : Nat, s.heap.size ≤ q → A q := fun q h => by rw [← hAe]; exact Or.inr h
  have hS : va_S A s.heap s.heap [] := va_S.rf
  have hXa := hX.nar hAw
  have hP : va_P (dC, dI) vwCl (xG L cid K N v) s.heap := hP
  have hl := lv_entry ([.ref p0.toNat, .ref p1.toNat]) (n := 3) (Nat.le_of_ble_eq_true rfl)
  rw [lg_entry_eq]
  generalize (lg_sl ([.ref p0.toNat, .ref p1.toNat]) ++ List.replicate (3 - (lg_sl ([.ref p0.toNat, .ref p1.toNat])).length) Slot.unset).toArray = ls at hl ⊢
  have hl : lv_has ls 3 [(0, .ref p0.toNat), (1, .ref p1.toNat)] := hl
  generalize hQ : MQ below (va_Qi (fun (r : Int32) (_ : Unit) => ∃ z : Int, r = iI z ∧ (0 ≤ z ∧ z ≤ 1)) (fun _ _ => True) A) ([.ref p0.toNat, .ref p1.toNat] : List Value).toArray s 0 0 A = Q
  suffices ST : ∀ (H : Heap) (locs : List Loc), va_P (dC, dI) vwCl (xG L cid K N v) H → va_S A s.heap H locs → W p l e ({ frames := 1, cells := 0, slots := 0, locals := 21 }) s m ([.ref p0.toNat, .ref p1.toNat] : List Value).toArray below meth c H locs 0 0 Q (F0 m 0 ls []) from ST _ _ hP hS
  clear hP hS
  intro H locs hP hS
  refine lv_aload_n hx hb dX12_hangs_0 rfl (lv_at hl 0 rfl) ?_
  refine lv_aload_n hx hb dX12_hangs_1 rfl (lv_at hl 1 rfl) ?_
  have h_1 : (-2147483648) ≤ v p1 14 ∧ v p1 14 ≤ 2147483647 := xf_0_14 hI q1
  refine gx_RX12_313 (y := v p1 14) hx hb hj hown hK hP q1 rfl dX12_hangs_2 ?_
  refine jc_q (va_runV (As := [.int (iI (v p1 14))]) (rest := []) ⟨hx, hb, hml, hown, hts⟩ (sX12_handAt l dC dI _ L cid K N tW sK sV v p0 (v p1 14) hI q0 (by omega)) (cwV 1 hts (jgoodV m_1056 m_1057 m_1058 m_873 m_1059) rfl rfl rfl (by decide +kernel) ⟨(Nat.le_of_ble_eq_true rfl), (Nat.le_of_ble_eq_true rfl)⟩) ⟨xP_blind, xrecv hK hP q0 rfl rfl, fun U hU hW => ⟨rfl, xP_of hU hW hP hK hDw hX hS hAw hAA⟩⟩ rfl rfl hl.1 rfl (lv_room (Nat.le_of_ble_eq_true rfl)) dX12_hangs_5 ⟨(Nat.le_of_ble_eq_true rfl), (Nat.le_of_ble_eq_true rfl)⟩) hP hS hA (fun r_2 H locs w_3 hP hS => ?_)
  obtain ⟨z_4, rfl, h_5, h_6⟩ := w_3
  have h_7 : 0 ≤ v p0 11 ∧ v p0 11 ≤ 12 := xf_12_11 hI q0
  have h_8 : ok L K (v p0 10) 38 := xf_12_10 hI q0
  have h_9 : N (v p0 10) = 12 := xn_38 hI h_8
  refine jt_q (rv z_4) rfl ?_
  refine xq_astore_n (i := 2) (lv' := [(2, rv z_4), (0, .ref p0.toNat), (1, .ref p1.toNat)]) hx hb dX12_hangs_8 rfl hl (by decide) rfl (fun ls hl => ?_)
  refine xq_aload_n hx hb dX12_hangs_9 rfl (lv_at hl 0 rfl) ?_
  refine xq_ifnull (tgt := 35) hx hb dX12_hangs_10 (by decide) (fun h_10 => ?_) (fun h_10 => ?_)
  · refine lv_iconst (v := iI 0) hx hb dX12_hangs_35 rfl ?_
    rw [← hQ]
    exact W.zret (v := iI 0) (ty := .boolean) hx hb hr (nb_bool (by omega) (by omega)) (fun t ht hW => ⟨⟨iI 0, (), rfl, ⟨0, rfl, by omega⟩, trivial⟩, hS.F ht⟩) hS.2.2 dX12_hangs_36
  · have h_11 : ok L K z_4 2 := h_5.resolve_left (by omega)
    refine xq_aload_n hx hb dX12_hangs_13 rfl (lv_at hl 0 rfl) ?_
    refine jt_q (.ref z_4.toNat) (rv_ref (h_11).1) ?_
    have h_12 : 0 ≤ v z_4 3 ∧ v z_4 3 ≤ 1 := xf_2_3 hI h_11
    refine gx_RX12_300 (y := v z_4 3) hx hb hj hown hK hP h_11 rfl dX12_hangs_14 ?_
    refine xr_if_ne (tgt := 35) hx hb dX12_hangs_17 (by decide) (by omega) (fun h_13 => ?_) (fun h_13 => ?_)
    · refine lv_iconst (v := iI 0) hx hb dX12_hangs_35 rfl ?_
      rw [← hQ]
      exact W.zret (v := iI 0) (ty := .boolean) hx hb hr (nb_bool (by omega) (by omega)) (fun t ht hW => ⟨⟨iI 0, (), rfl, ⟨0, rfl, by omega⟩, trivial⟩, hS.F ht⟩) hS.2.2 dX12_hangs_36
    · refine lv_aload_n hx hb dX12_hangs_20 rfl (lv_at hl 2 rfl) ?_
      refine lv_aload_n hx hb dX12_hangs_21 rfl (lv_at hl 2 rfl) ?_
      refine gx_RX12_313 (y := v p1 14) hx hb hj hown hK hP q1 rfl dX12_hangs_22 ?_
      refine jc_i (va_runV (As := [.int (iI (v p1 14))]) (rest := []) ⟨hx, hb, hml, hown, hts⟩ (sX0_isUnfinishedOf l dC dI _ L cid K N tW sK sV v p1 (v p1 14) hI q1 (by omega)) (cwV 1 hts (jgoodV m_1064 m_1065 m_1066 m_666 m_1067) rfl rfl rfl (by decide +kernel) ⟨(Nat.le_of_ble_eq_true rfl), (Nat.le_of_ble_eq_true rfl)⟩) ⟨xP_blind, xrecv hK hP q1 rfl rfl, fun U hU hW => ⟨rfl, xP_of hU hW hP hK hDw hX hS hAw hAA⟩⟩ rfl rfl hl.1 rfl (lv_room (Nat.le_of_ble_eq_true rfl)) dX12_hangs_25 ⟨(Nat.le_of_ble_eq_true rfl), (Nat.le_of_ble_eq_true rfl)⟩) hP hS hA (fun r_14 H locs w_15 hP hS => ?_)
      obtain ⟨z_16, rfl, h_17⟩ := w_15
      refine xr_if_eq (tgt := 35) hx hb dX12_hangs_28 (by decide) (by omega) (fun h_18 => ?_) (fun h_18 => ?_)
      · refine lv_iconst (v := iI 0) hx hb dX12_hangs_35 rfl ?_
        rw [← hQ]
        exact W.zret (v := iI 0) (ty := .boolean) hx hb hr (nb_bool (by omega) (by omega)) (fun t ht hW => ⟨⟨iI 0, (), rfl, ⟨0, rfl, by omega⟩, trivial⟩, hS.F ht⟩) hS.2.2 dX12_hangs_36
      · refine lv_iconst (v := iI 1) hx hb dX12_hangs_31 rfl ?_
        refine lv_goto (tgt := 36) hx hb dX12_hangs_32 (by decide) ?_
        rw [← hQ]
        exact W.zret (v := iI 1) (ty := .boolean) hx hb hr (nb_bool (by omega) (by omega)) (fun t ht hW => ⟨⟨iI 1, (), rfl, ⟨1, rfl, by omega⟩, trivial⟩, hS.F ht⟩) hS.2.2 dX12_hangs_36
set_option maxHeartbeats 2000000 in
set_option maxRecDepth 100000 in
theorem sX12_takers (l : Launch) (dC : Nat → ClassId) (dI : Nat → Nat → Nat) (sz : Nat) (L : List Nat) (cid : Nat → ClassId) (K : Int → Nat) (N : Int → Int) (tW : Nat) (sK sV : Nat → Nat) (v : Int → Int → Int) (p0 : Int) (p1 : Int) (hI : xI L K N v) (q0 : ok L K p0 12) (q1 : rg p1) : Met l yX12_takers (jk yX12_takers cX12_takers 5 (some .int)) ({ frames := 6, cells := 0, slots := 0, locals := 162 }) (va_Pc [.ref p0.toNat, .int (iI p1)] (xP (dC, dI) (xG L cid K N v) (xT cid) tW sK sV sz)) (va_Qi (fun (r : Int32) (u : (Int → Int → Int)) => ∃ z : Int, r = iI z ∧ (xI L K N u) ∧ (fr K [(33, (-1)), (34, (-1))] u v) ∧ (rg z)) (fun u t => va_P (dC, dI) vwCl (xG L cid K N u) t.heap ∧ va_K (dC, dI) vwCl (xT cid) t ∧ va_D (va_A (xG L cid K N v) sz) (xG L cid K N u)) (va_A (xG L cid K N v) sz)) 0 0 (va_A (xG L cid K N v) sz) := by
  refine Met.ofW (cc := cX12_takers) (maxL := 5) (ret := (some .int)) (by decide) rfl ?_
  intro p e s m args below meth c s₁ B hml hv
  obtain ⟨rfl, ⟨hsz, hP, hK, hD0⟩, hX⟩ := hv
  have hx := B.exec
  have hb := B.bytes
  have hr := B.returns
  have hts := atoms_spec (ws := (jk yX12_takers cX12_takers 5 (some .int))) B.pre
  have hj : ∀ w ∈ jw, w.before ([.ref p0.toNat, .int (iI p1)] : List Value).toArray s = true := fun w h => hts w (jm h)
  have hown : s.vm.findClass RX12 = some m.cls := findClass_of_methodNamed B.named
  subst hsz
  have hD := hD0.self (sz := s.heap.size)
  generalize hAe : (va_A (xG L cid K N v) s.heap.size) = A at hD hX ⊢
  have hA : ∀ q : Nat, s.heap.size ≤ q → A q := fun q h => by rw [← hAe]; exact Or.inr h
  have hS : va_S A s.heap s.heap [] := va_S.rf
  have hXa := hX
  have hP : va_P (dC, dI) vwCl (xG L cid K N v) s.heap := hP
  have hl := lv_entry ([.ref p0.toNat, .int (iI p1)]) (n := 5) (Nat.le_of_ble_eq_true rfl)
  rw [lg_entry_eq]
  generalize (lg_sl ([.ref p0.toNat, .int (iI p1)]) ++ List.replicate (5 - (lg_sl ([.ref p0.toNat, .int (iI p1)])).length) Slot.unset).toArray = ls at hl ⊢
  have hl : lv_has ls 5 [(0, .ref p0.toNat), (1, .int (iI p1))] := hl
  generalize hQ : MQ below (va_Qi (fun (r : Int32) (u : (Int → Int → Int)) => ∃ z : Int, r = iI z ∧ (xI L K N u) ∧ (fr K [(33, (-1)), (34, (-1))] u v) ∧ (rg z)) (fun u t => va_P (dC, dI) vwCl (xG L cid K N u) t.heap ∧ va_K (dC, dI) vwCl (xT cid) t ∧ va_D A (xG L cid K N u)) A) ([.ref p0.toNat, .int (iI p1)] : List Value).toArray s 0 0 A = Q
  suffices ST : ∀ (H : Heap) (locs : List Loc), va_P (dC, dI) vwCl (xG L cid K N v) H → va_S A s.heap H locs → W p l e ({ frames := 6, cells := 0, slots := 0, locals := 162 }) s m ([.ref p0.toNat, .int (iI p1)] : List Value).toArray below meth c H locs 0 0 Q (F0 m 0 ls []) from ST _ _ hP hS
  clear hP hS
  intro H locs hP hS
  refine lv_aload_n hx hb dX12_takers_0 rfl (lv_at hl 0 rfl) ?_
  refine lv_iload_n hx hb dX12_takers_1 rfl (lv_at hl 1 rfl) ?_
  refine jc_q (va_runV (As := [.int (iI p1)]) (rest := []) ⟨hx, hb, hml, hown, hts⟩ (sX12_entryAt l dC dI _ L cid K N tW sK sV v p0 p1 hI q0 (by omega)) (cwV 1 hts (jgoodV m_870 m_871 m_872 m_873 m_874) rfl rfl rfl (by decide +kernel) ⟨(Nat.le_of_ble_eq_true rfl), (Nat.le_of_ble_eq_true rfl)⟩) ⟨xP_blind, xrecv hK hP q0 rfl rfl, fun U hU hW => ⟨rfl, xP_of hU hW hP hK hD hX hS (fun _ h => h) hA⟩⟩ rfl rfl hl.1 rfl (lv_room (Nat.le_of_ble_eq_true rfl)) dX12_takers_2 ⟨(Nat.le_of_ble_eq_true rfl), (Nat.le_of_ble_eq_true rfl)⟩) hP hS hA (fun r_1 H locs w_2 hP hS => ?_)
  obtain ⟨z_3, rfl, h_4⟩ := w_2
  refine jt_q (rv z_3) rfl ?_
  refine xq_astore_n (i := 2) (lv' := [(2, rv z_3), (0, .ref p0.toNat), (1, .int (iI p1))]) hx hb dX12_takers_5 rfl hl (by decide) rfl (fun ls hl => ?_)
  refine xq_aload_n hx hb dX12_takers_6 rfl (lv_at hl 0 rfl) ?_
  refine xq_ifnull (tgt := 18) hx hb dX12_takers_7 (by decide) (fun h_5 => ?_) (fun h_5 => ?_)
  · refine lv_iconst (v := iI (-1)) hx hb dX12_takers_18 rfl ?_
    rw [← hQ]
    exact W.iret (v := iI (-1)) hx hb hr (fun t ht hW => ⟨⟨iI (-1), v, rfl, ⟨(-1), rfl, hI, fr_rf, by omega⟩, by rw [ht]; exact hP, va_K.moved hW.alike hK, hD⟩, hS.F ht⟩) hS.2.2 dX12_takers_19
  · have h_6 : ok L K z_3 0 := h_4.resolve_left (by omega)
    refine lv_aload_n hx hb dX12_takers_10 rfl (lv_at hl 1 rfl) ?_
    refine xq_aload_n hx hb dX12_takers_11 rfl (lv_at hl 0 rfl) ?_
    refine jt_q (.ref z_3.toNat) (rv_ref (h_6).1) ?_
    refine jc_i (va_runV (As := [.ref z_3.toNat]) (rest := []) ⟨hx, hb, hml, hown, hts⟩ (sX12_hangs l dC dI _ L cid K N tW sK sV v p0 z_3 hI q0 h_6) (cwV 1 hts (jgoodV m_1113 m_1114 m_1115 m_873 m_1116) rfl rfl rfl (by decide +kernel) ⟨(Nat.le_of_ble_eq_true rfl), (Nat.le_of_ble_eq_true rfl)⟩) ⟨xP_blind, xrecv hK hP q0 rfl rfl, fun U hU hW => ⟨rfl, xP_of hU hW hP hK hD hX hS (fun _ h => h) hA⟩⟩ rfl rfl hl.1 rfl (lv_room (Nat.le_of_ble_eq_true rfl)) dX12_takers_12 ⟨(Nat.le_of_ble_eq_true rfl), (Nat.le_of_ble_eq_true rfl)⟩) hP hS hA (fun r_7 H locs w_8 hP hS => ?_)
    obtain ⟨z_9, rfl, h_10⟩ := w_8
    refine xr_if_ne (tgt := 20) hx hb dX12_takers_15 (by decide) (by omega) (fun h_11 => ?_) (fun h_11 => ?_)
    · refine lv_iconst (v := iI 0) hx hb dX12_takers_20 rfl ?_
      refine lv_istore_n (i := 3) (lv' := [(3, .int (iI 0)), (2, rv z_3), (0, .ref p0.toNat), (1, .int (iI p1))]) hx hb dX12_takers_21 rfl hl (by decide) (by simp [rv_cat]) (fun ls hl => ?_)
      refine lv_iconst (v := iI 0) hx hb dX12_takers_22 rfl ?_
      refine lv_istore (i := 4) (lv' := [(4, .int (iI 0)), (3, .int (iI 0)), (2, rv z_3), (0, .ref p0.toNat), (1, .int (iI p1))]) hx hb dX12_takers_23 hl (by decide) rfl (fun ls hl => ?_)
      have L25 : ∀ (n25 : Nat) (a4_25 a3_25 : Int) (vc25 : Int → Int → Int) (H : Heap) (locs : List Loc) (ls : Array Slot), (0 ≤ a4_25 ∧ a4_25 ≤ 2147483647) → ((-2147483648) ≤ a3_25 ∧ a3_25 ≤ 2147483647) → (0 < (n25 : Int) ∧ (v p0 11) - a4_25 < (n25 : Int)) → fr K [(33, (-1)), (34, (-1))] vc25 v → xI L K N vc25 → va_P (dC, dI) vwCl (xG L cid K N vc25) H → va_D A (xG L cid K N vc25) → va_S A s.heap H locs → lv_has ls 5 [(4, .int (iI a4_25)), (3, .int (iI a3_25)), (2, rv z_3), (0, .ref p0.toNat), (1, .int (iI p1))] → W p l e ({ frames := 6, cells := 0, slots := 0, locals := 162 }) s m ([.ref p0.toNat, .int (iI p1)] : List Value).toArray below meth c H locs 0 0 Q (F0 m 25 ls []) := by
        intro n25
        induction n25 with
        | zero =>
          intro a4_25 a3_25 vc25 H locs ls h_12 h_13 hm25 f_14 I_15 hP hD hS hl
          exfalso; omega
        | succ n25 ih25 =>
          intro a4_25 a3_25 vc25 H locs ls h_16 h_17 hm25 f_18 I_19 hP hD hS hl
          refine lv_iload hx hb dX12_takers_25 (lv_at hl 0 rfl) ?_
          refine lv_aload_n hx hb dX12_takers_27 rfl (lv_at hl 3 rfl) ?_
          have h_20 : 0 ≤ v p0 11 ∧ v p0 11 ≤ 12 := xf_12_11 hI q0
          refine gx_RX12_292 (y := v p0 11) hx hb hj hown hK hP q0 (fr_use q0 f_18 rfl) dX12_takers_28 ?_
          refine xr_icmp_ge (tgt := 57) hx hb dX12_takers_31 (by decide) (by omega) (by omega) (fun h_21 => ?_) (fun h_21 => ?_)
          · refine lv_iload_n hx hb dX12_takers_57 rfl (lv_at hl 1 rfl) ?_
            rw [← hQ]
            exact W.iret (v := iI a3_25) hx hb hr (fun t ht hW => ⟨⟨iI a3_25, vc25, rfl, ⟨a3_25, rfl, I_19, (fr_tr f_18 rfl fr_rf), by omega⟩, by rw [ht]; exact hP, va_K.moved hW.alike hK, hD⟩, hS.F ht⟩) hS.2.2 dX12_takers_58
          · refine lv_aload_n hx hb dX12_takers_34 rfl (lv_at hl 3 rfl) ?_
            refine xq_aload_n hx hb dX12_takers_35 rfl (lv_at hl 2 rfl) ?_
            refine jt_q (.ref z_3.toNat) (rv_ref (h_6).1) ?_
            refine lv_iload hx hb dX12_takers_36 (lv_at hl 0 rfl) ?_
            refine jcg_i (va_runV (As := [.ref z_3.toNat, .int (iI a4_25)]) (rest := []) ⟨hx, hb, hml, hown, hts⟩ (sX12_mayTake l dC dI _ L cid K N tW sK sV vc25 p0 z_3 a4_25 I_19 q0 h_6 (by omega)) (cwV 2 hts (jgoodV m_1101 m_1102 m_1103 m_873 m_1104) rfl rfl rfl (by decide +kernel) ⟨(Nat.le_of_ble_eq_true rfl), (Nat.le_of_ble_eq_true rfl)⟩) ⟨xP_blind, xrecv hK hP q0 rfl rfl, fun U hU hW => ⟨rfl, xP_of hU hW hP hK hD hX hS (fun _ h => h) hA⟩⟩ rfl rfl hl.1 rfl (lv_room (Nat.le_of_ble_eq_true rfl)) dX12_takers_38 ⟨(Nat.le_of_ble_eq_true rfl), (Nat.le_of_ble_eq_true rfl)⟩) hD hS hA (fun r_22 v_26 H locs w_23 hP hK hD hS => ?_)
            obtain ⟨z_24, rfl, I_28, f_27, h_25⟩ := w_23
            have hP : va_P (dC, dI) vwCl (xG L cid K N v_26) H := hP
            have hD : va_D A (xG L cid K N v_26) := hD
            have J51 : ∀ (a3_51 : Int) (H : Heap) (locs : List Loc) (ls : Array Slot), ((-2147483648) ≤ a3_51 ∧ a3_51 ≤ 2147483647) → va_P (dC, dI) vwCl (xG L cid K N v_26) H → va_D A (xG L cid K N v_26) → va_S A s.heap H locs → lv_has ls 5 [(4, .int (iI a4_25)), (3, .int (iI a3_51)), (2, rv z_3), (0, .ref p0.toNat), (1, .int (iI p1))] → W p l e ({ frames := 6, cells := 0, slots := 0, locals := 162 }) s m ([.ref p0.toNat, .int (iI p1)] : List Value).toArray below meth c H locs 0 0 Q (F0 m 51 ls []) := by
              intro a3_51 H locs ls h_29 hP hD hS hl
              refine lv_iinc (v := iI (a4_25 + 1)) (lv' := [(4, .int (iI (a4_25 + 1))), (3, .int (iI a3_51)), (2, rv z_3), (0, .ref p0.toNat), (1, .int (iI p1))]) hx hb dX12_takers_51 hl (k := 0) rfl (iI_add _ _) (by decide) rfl (fun ls hl => ?_)
              refine lv_goto (tgt := 25) hx hb dX12_takers_54 (by decide) ?_
              exact ih25 (a4_25 + 1) a3_51 v_26 H locs ls (by omega) (by omega) (by omega) (fr_tr f_27 rfl (fr_tr f_18 rfl fr_rf)) I_28 hP hD hS hl
            refine xr_if_eq (tgt := 51) hx hb dX12_takers_41 (by decide) (by omega) (fun h_30 => ?_) (fun h_30 => ?_)
            · exact J51 a3_25 H locs ls (by omega) hP hD hS hl
            · refine lv_iload_n hx hb dX12_takers_44 rfl (lv_at hl 1 rfl) ?_
              refine lv_iconst (v := iI 1) hx hb dX12_takers_45 rfl ?_
              refine lv_iload hx hb dX12_takers_46 (lv_at hl 0 rfl) ?_
              refine lv_ishl hx hb dX12_takers_48 ?_
              refine xr_any (fun z_31 h_32 => ?_)
              refine lv_ior hx hb dX12_takers_49 ?_
              refine xr_any (fun z_33 h_34 => ?_)
              refine lv_istore_n (i := 3) (lv' := [(3, .int (iI z_33)), (4, .int (iI a4_25)), (2, rv z_3), (0, .ref p0.toNat), (1, .int (iI p1))]) hx hb dX12_takers_50 rfl hl (by decide) (by simp [rv_cat]) (fun ls hl => ?_)
              exact J51 z_33 H locs ls (by omega) hP hD hS (lv_sub hl [1, 0, 2, 3, 4] rfl)
      exact L25 ((((v p0 11) - 0 : Int)).toNat + 1) 0 0 v H locs ls (by omega) (by omega) (by omega) fr_rf hI hP hD hS hl
    · refine lv_iconst (v := iI (-1)) hx hb dX12_takers_18 rfl ?_
      rw [← hQ]
      exact W.iret (v := iI (-1)) hx hb hr (fun t ht hW => ⟨⟨iI (-1), v, rfl, ⟨(-1), rfl, hI, fr_rf, by omega⟩, by rw [ht]; exact hP, va_K.moved hW.alike hK, hD⟩, hS.F ht⟩) hS.2.2 dX12_takers_19
