set_option maxHeartbeats 2000000 in
set_option maxRecDepth 100000 in
theorem sX12_takenLines (l : Launch) (dC : Nat → ClassId) (dI : Nat → Nat → Nat) (sz : Nat) (L : List Nat) (cid : Nat → ClassId) (K : Int → Nat) (N : Int → Int) (tW : Nat) (sK sV : Nat → Nat) (v : Int → Int → Int) (p0 : Int) (p1 : Int) (hI : xI L K N v) (q0 : ok L K p0 12) (q1 : ok L K p1 0) : Met l yX12_takenLines (jk yX12_takenLines cX12_takenLines 2 (some .int)) ({ frames := 0, cells := 0, slots := 0, locals := 0 }) (va_Pc [.ref p0.toNat, .ref p1.toNat] (xP (dC, dI) (xG L cid K N v) (xT cid) tW sK sV sz)) (va_Qi (fun (r : Int32) (_ : Unit) => ∃ z : Int, r = iI z ∧ (rg z)) (fun _ _ => True) (va_A [] sz)) 0 0 (va_A [] sz) := by
  refine Met.ofW (cc := cX12_takenLines) (maxL := 2) (ret := (some .int)) (by decide) rfl ?_
  intro p e s m args below meth c s₁ B hml hv
  obtain ⟨rfl, ⟨hsz, hP, hK, hD0⟩, hX⟩ := hv
  have hx := B.exec
  have hb := B.bytes
  have hr := B.returns
  have hts := atoms_spec (ws := (jk yX12_takenLines cX12_takenLines 2 (some .int))) B.pre
  have hj : ∀ w ∈ jw, w.before ([.ref p0.toNat, .ref p1.toNat] : List Value).toArray s = true := fun w h => hts w (jm h)
  have hown : s.vm.findClass RX12 = some m.cls := findClass_of_methodNamed B.named
  subst hsz
  have hDw := hD0.self (sz := s.heap.size)
  have hAA : ∀ q : Nat, s.heap.size ≤ q → va_A (xG L cid K N v) s.heap.size q := fun q h => Or.inr h
  have hAw : ∀ q, va_A [] s.heap.size q → va_A (xG L cid K N v) s.heap.size q := ja_nil va_S.rf hAA
  generalize hAe : (va_A [] s.heap.size) = A at hAw ⊢
  have hA : ∀ q : Nat, s.heap.size ≤ q → A q := fun q h => by rw [← hAe]; exact Or.inr h
  have hS : va_S A s.heap s.heap [] := va_S.rf
  have hXa := hX.nar hAw
  have hP : va_P (dC, dI) vwCl (xG L cid K N v) s.heap := hP
  have hl := lv_entry ([.ref p0.toNat, .ref p1.toNat]) (n := 2) (Nat.le_of_ble_eq_true rfl)
  rw [lg_entry_eq]
  generalize (lg_sl ([.ref p0.toNat, .ref p1.toNat]) ++ List.replicate (2 - (lg_sl ([.ref p0.toNat, .ref p1.toNat])).length) Slot.unset).toArray = ls at hl ⊢
  have hl : lv_has ls 2 [(0, .ref p0.toNat), (1, .ref p1.toNat)] := hl
  generalize hQ : MQ below (va_Qi (fun (r : Int32) (_ : Unit) => ∃ z : Int, r = iI z ∧ (rg z)) (fun _ _ => True) A) ([.ref p0.toNat, .ref p1.toNat] : List Value).toArray s 0 0 A = Q
  suffices ST : ∀ (H : Heap) (locs : List Loc), va_P (dC, dI) vwCl (xG L cid K N v) H → va_S A s.heap H locs → W p l e ({ frames := 0, cells := 0, slots := 0, locals := 0 }) s m ([.ref p0.toNat, .ref p1.toNat] : List Value).toArray below meth c H locs 0 0 Q (F0 m 0 ls []) from ST _ _ hP hS
  clear hP hS
  intro H locs hP hS
  refine lv_aload_n hx hb dX12_takenLines_0 rfl (lv_at hl 1 rfl) ?_
  have h_1 : (-2147483648) ≤ v p1 1 ∧ v p1 1 ≤ 2147483647 := xf_0_1 hI q1
  refine gx_RX12_240 (y := v p1 1) hx hb hj hown hK hP q1 rfl dX12_takenLines_1 ?_
  refine xr_if_ne (tgt := 12) hx hb dX12_takenLines_4 (by decide) (by omega) (fun h_2 => ?_) (fun h_2 => ?_)
  · refine lv_aload_n hx hb dX12_takenLines_12 rfl (lv_at hl 1 rfl) ?_
    refine gx_RX12_240 (y := v p1 1) hx hb hj hown hK hP q1 rfl dX12_takenLines_13 ?_
    refine lv_iconst (v := iI 1) hx hb dX12_takenLines_16 rfl ?_
    refine xr_icmp_ne (tgt := 24) hx hb dX12_takenLines_17 (by decide) (by omega) (by omega) (fun h_3 => ?_) (fun h_3 => ?_)
    · refine lv_bipush (v := iI 10) hx hb dX12_takenLines_24 rfl ?_
      rw [← hQ]
      exact W.iret (v := iI 10) hx hb hr (fun t ht hW => ⟨⟨iI 10, (), rfl, ⟨10, rfl, by omega⟩, trivial⟩, hS.F ht⟩) hS.2.2 dX12_takenLines_26
    · refine lv_iconst (v := iI 1) hx hb dX12_takenLines_20 rfl ?_
      refine lv_goto (tgt := 26) hx hb dX12_takenLines_21 (by decide) ?_
      rw [← hQ]
      exact W.iret (v := iI 1) hx hb hr (fun t ht hW => ⟨⟨iI 1, (), rfl, ⟨1, rfl, by omega⟩, trivial⟩, hS.F ht⟩) hS.2.2 dX12_takenLines_26
  · refine lv_aload_n hx hb dX12_takenLines_7 rfl (lv_at hl 1 rfl) ?_
    have h_4 : 0 ≤ v p1 15 ∧ v p1 15 ≤ 200 := xf_0_15 hI q1
    refine gx_RX12_342 (y := v p1 15) hx hb hj hown hK hP q1 rfl dX12_takenLines_8 ?_
    rw [← hQ]
    exact W.iret (v := iI (v p1 15)) hx hb hr (fun t ht hW => ⟨⟨iI (v p1 15), (), rfl, ⟨v p1 15, rfl, by omega⟩, trivial⟩, hS.F ht⟩) hS.2.2 dX12_takenLines_11
set_option maxHeartbeats 2000000 in
set_option maxRecDepth 100000 in
theorem sX12_page (l : Launch) (dC : Nat → ClassId) (dI : Nat → Nat → Nat) (sz : Nat) (L : List Nat) (cid : Nat → ClassId) (K : Int → Nat) (N : Int → Int) (tW : Nat) (sK sV : Nat → Nat) (v : Int → Int → Int) (p0 : Int) (p1 : Int) (hI : xI L K N v) (q0 : ok L K p0 12) (q1 : rg p1) : Met l yX12_page (jk yX12_page cX12_page 3 (some .int)) ({ frames := 1, cells := 0, slots := 0, locals := 21 }) (va_Pc [.ref p0.toNat, .int (iI p1)] (xP (dC, dI) (xG L cid K N v) (xT cid) tW sK sV sz)) (va_Qi (fun (r : Int32) (_ : Unit) => ∃ z : Int, r = iI z ∧ (rg z)) (fun _ _ => True) (va_A [] sz)) 0 0 (va_A [] sz) := by
  refine Met.ofW (cc := cX12_page) (maxL := 3) (ret := (some .int)) (by decide) rfl ?_
  intro p e s m args below meth c s₁ B hml hv
  obtain ⟨rfl, ⟨hsz, hP, hK, hD0⟩, hX⟩ := hv
  have hx := B.exec
  have hb := B.bytes
  have hr := B.returns
  have hts := atoms_spec (ws := (jk yX12_page cX12_page 3 (some .int))) B.pre
  have hj : ∀ w ∈ jw, w.before ([.ref p0.toNat, .int (iI p1)] : List Value).toArray s = true := fun w h => hts w (jm h)
  have hown : s.vm.findClass RX12 = some m.cls := findClass_of_methodNamed B.named
  subst hsz
  have hDw := hD0.self (sz := s.heap.size)
  have hAA : ∀ q : Nat, s.heap.size ≤ q → va_A (xG L cid K N v) s.heap.size q := fun q h => Or.inr h
  have hAw : ∀ q, va_A [] s.heap.size q → va_A (xG L cid K N v) s.heap.size q := ja_nil va_S.rf hAA
  generalize hAe : (va_A [] s.heap.size) = A at hAw ⊢
  have hA : ∀ q : Nat, s.heap.size ≤ q → A q := fun q h => by rw [← hAe]; exact Or.inr h
  have hS : va_S A s.heap s.heap [] := va_S.rf
  have hXa := hX.nar hAw
  have hP : va_P (dC, dI) vwCl (xG L cid K N v) s.heap := hP
  have hl := lv_entry ([.ref p0.toNat, .int (iI p1)]) (n := 3) (Nat.le_of_ble_eq_true rfl)
  rw [lg_entry_eq]
  generalize (lg_sl ([.ref p0.toNat, .int (iI p1)]) ++ List.replicate (3 - (lg_sl ([.ref p0.toNat, .int (iI p1)])).length) Slot.unset).toArray = ls at hl ⊢
  have hl : lv_has ls 3 [(0, .ref p0.toNat), (1, .int (iI p1))] := hl
  generalize hQ : MQ below (va_Qi (fun (r : Int32) (_ : Unit) => ∃ z : Int, r = iI z ∧ (rg z)) (fun _ _ => True) A) ([.ref p0.toNat, .int (iI p1)] : List Value).toArray s 0 0 A = Q
  suffices ST : ∀ (H : Heap) (locs : List Loc), va_P (dC, dI) vwCl (xG L cid K N v) H → va_S A s.heap H locs → W p l e ({ frames := 1, cells := 0, slots := 0, locals := 21 }) s m ([.ref p0.toNat, .int (iI p1)] : List Value).toArray below meth c H locs 0 0 Q (F0 m 0 ls []) from ST _ _ hP hS
  clear hP hS
  intro H locs hP hS
  refine lv_aload_n hx hb dX12_page_0 rfl (lv_at hl 0 rfl) ?_
  refine lv_iload_n hx hb dX12_page_1 rfl (lv_at hl 1 rfl) ?_
  refine jc_q (va_runV (As := [.int (iI p1)]) (rest := []) ⟨hx, hb, hml, hown, hts⟩ (sX12_entryAt l dC dI _ L cid K N tW sK sV v p0 p1 hI q0 (by omega)) (cwV 1 hts (jgoodV m_870 m_871 m_872 m_873 m_874) rfl rfl rfl (by decide +kernel) ⟨(Nat.le_of_ble_eq_true rfl), (Nat.le_of_ble_eq_true rfl)⟩) ⟨xP_blind, xrecv hK hP q0 rfl rfl, fun U hU hW => ⟨rfl, xP_of hU hW hP hK hDw hX hS hAw hAA⟩⟩ rfl rfl hl.1 rfl (lv_room (Nat.le_of_ble_eq_true rfl)) dX12_page_2 ⟨(Nat.le_of_ble_eq_true rfl), (Nat.le_of_ble_eq_true rfl)⟩) hP hS hA (fun r_1 H locs w_2 hP hS => ?_)
  obtain ⟨z_3, rfl, h_4⟩ := w_2
  refine jt_q (rv z_3) rfl ?_
  refine xq_astore_n (i := 2) (lv' := [(2, rv z_3), (0, .ref p0.toNat), (1, .int (iI p1))]) hx hb dX12_page_5 rfl hl (by decide) rfl (fun ls hl => ?_)
  refine xq_aload_n hx hb dX12_page_6 rfl (lv_at hl 0 rfl) ?_
  refine xq_ifnonnull (tgt := 14) hx hb dX12_page_7 (by decide) (fun h_5 => ?_) (fun h_5 => ?_)
  · have h_6 : ok L K z_3 0 := h_4.resolve_left (by omega)
    refine lv_aload_n hx hb dX12_page_14 rfl (lv_at hl 1 rfl) ?_
    refine xq_aload_n hx hb dX12_page_15 rfl (lv_at hl 0 rfl) ?_
    refine jt_q (.ref z_3.toNat) (rv_ref (h_6).1) ?_
    have h_7 : (-2147483648) ≤ v z_3 13 ∧ v z_3 13 ≤ 2147483647 := xf_0_13 hI h_6
    refine gx_RX12_468 (y := v z_3 13) hx hb hj hown hK hP h_6 rfl dX12_page_16 ?_
    refine jc_i (va_runV (As := [.int (iI (v z_3 13))]) (rest := []) ⟨hx, hb, hml, hown, hts⟩ (sX12_pageOf l dC dI _ p0 (v z_3 13) (by omega)) (cwV 1 hts (jgoodV m_1145 m_1146 m_1147 m_873 m_1148) rfl rfl rfl (by decide +kernel) ⟨(Nat.le_of_ble_eq_true rfl), (Nat.le_of_ble_eq_true rfl)⟩) ⟨jw_blind0, xrecv hK hP q0 rfl rfl, fun U hU hW => ⟨rfl, congrArg Array.size hU⟩⟩ rfl rfl hl.1 rfl (lv_room (Nat.le_of_ble_eq_true rfl)) dX12_page_19 ⟨(Nat.le_of_ble_eq_true rfl), (Nat.le_of_ble_eq_true rfl)⟩) hP hS hA (fun r_8 H locs w_9 hP hS => ?_)
    obtain ⟨z_10, rfl, h_11⟩ := w_9
    rw [← hQ]
    exact W.iret (v := iI z_10) hx hb hr (fun t ht hW => ⟨⟨iI z_10, (), rfl, ⟨z_10, rfl, by omega⟩, trivial⟩, hS.F ht⟩) hS.2.2 dX12_page_22
  · refine lv_iconst (v := iI (-1)) hx hb dX12_page_10 rfl ?_
    refine lv_goto (tgt := 22) hx hb dX12_page_11 (by decide) ?_
    rw [← hQ]
    exact W.iret (v := iI (-1)) hx hb hr (fun t ht hW => ⟨⟨iI (-1), (), rfl, ⟨(-1), rfl, by omega⟩, trivial⟩, hS.F ht⟩) hS.2.2 dX12_page_22
set_option maxHeartbeats 2000000 in
set_option maxRecDepth 100000 in
theorem sX12_isAway (l : Launch) (dC : Nat → ClassId) (dI : Nat → Nat → Nat) (sz : Nat) (L : List Nat) (cid : Nat → ClassId) (K : Int → Nat) (N : Int → Int) (tW : Nat) (sK sV : Nat → Nat) (v : Int → Int → Int) (p0 : Int) (p1 : Int) (hI : xI L K N v) (q0 : ok L K p0 12) (q1 : ok L K p1 0) : Met l yX12_isAway (jk yX12_isAway cX12_isAway 2 (some .boolean)) ({ frames := 2, cells := 0, slots := 0, locals := 42 }) (va_Pc [.ref p0.toNat, .ref p1.toNat] (xP (dC, dI) (xG L cid K N v) (xT cid) tW sK sV sz)) (va_Qi (fun (r : Int32) (_ : Unit) => ∃ z : Int, r = iI z ∧ (0 ≤ z ∧ z ≤ 1)) (fun _ _ => True) (va_A [] sz)) 0 0 (va_A [] sz) := by
  refine Met.ofW (cc := cX12_isAway) (maxL := 2) (ret := (some .boolean)) (by decide) rfl ?_
  intro p e s m args below meth c s₁ B hml hv
  obtain ⟨rfl, ⟨hsz, hP, hK, hD0⟩, hX⟩ := hv
  have hx := B.exec
  have hb := B.bytes
  have hr := B.returns
  have hts := atoms_spec (ws := (jk yX12_isAway cX12_isAway 2 (some .boolean))) B.pre
  have hj : ∀ w ∈ jw, w.before ([.ref p0.toNat, .ref p1.toNat] : List Value).toArray s = true := fun w h => hts w (jm h)
  have hown : s.vm.findClass RX12 = some m.cls := findClass_of_methodNamed B.named
  subst hsz
  have hDw := hD0.self (sz := s.heap.size)
  have hAA : ∀ q : Nat, s.heap.size ≤ q → va_A (xG L cid K N v) s.heap.size q := fun q h => Or.inr h
  have hAw : ∀ q, va_A [] s.heap.size q → va_A (xG L cid K N v) s.heap.size q := ja_nil va_S.rf hAA
  generalize hAe : (va_A [] s.heap.size) = A at hAw ⊢
  have hA : ∀ q : Nat, s.heap.size ≤ q → A q := fun q h => by rw [← hAe]; exact Or.inr h
  have hS : va_S A s.heap s.heap [] := va_S.rf
  have hXa := hX.nar hAw
  have hP : va_P (dC, dI) vwCl (xG L cid K N v) s.heap := hP
  have hl := lv_entry ([.ref p0.toNat, .ref p1.toNat]) (n := 2) (Nat.le_of_ble_eq_true rfl)
  rw [lg_entry_eq]
  generalize (lg_sl ([.ref p0.toNat, .ref p1.toNat]) ++ List.replicate (2 - (lg_sl ([.ref p0.toNat, .ref p1.toNat])).length) Slot.unset).toArray = ls at hl ⊢
  have hl : lv_has ls 2 [(0, .ref p0.toNat), (1, .ref p1.toNat)] := hl
  generalize hQ : MQ below (va_Qi (fun (r : Int32) (_ : Unit) => ∃ z : Int, r = iI z ∧ (0 ≤ z ∧ z ≤ 1)) (fun _ _ => True) A) ([.ref p0.toNat, .ref p1.toNat] : List Value).toArray s 0 0 A = Q
  suffices ST : ∀ (H : Heap) (locs : List Loc), va_P (dC, dI) vwCl (xG L cid K N v) H → va_S A s.heap H locs → W p l e ({ frames := 2, cells := 0, slots := 0, locals := 42 }) s m ([.ref p0.toNat, .ref p1.toNat] : List Value).toArray below meth c H locs 0 0 Q (F0 m 0 ls []) from ST _ _ hP hS
  clear hP hS
  intro H locs hP hS
  refine lv_aload_n hx hb dX12_isAway_0 rfl (lv_at hl 0 rfl) ?_
  refine lv_aload_n hx hb dX12_isAway_1 rfl (lv_at hl 1 rfl) ?_
  refine jc_i (va_runV (As := [.ref p1.toNat]) (rest := []) ⟨hx, hb, hml, hown, hts⟩ (sX12_isStruck l dC dI _ L cid K N tW sK sV v p0 p1 hI q0 q1) (cwV 1 hts (jgoodV m_1060 m_1061 m_1062 m_873 m_1063) rfl rfl rfl (by decide +kernel) ⟨(Nat.le_of_ble_eq_true rfl), (Nat.le_of_ble_eq_true rfl)⟩) ⟨xP_blind, xrecv hK hP q0 rfl rfl, fun U hU hW => ⟨rfl, xP_of hU hW hP hK hDw hX hS hAw hAA⟩⟩ rfl rfl hl.1 rfl (lv_room (Nat.le_of_ble_eq_true rfl)) dX12_isAway_2 ⟨(Nat.le_of_ble_eq_true rfl), (Nat.le_of_ble_eq_true rfl)⟩) hP hS hA (fun r_1 H locs w_2 hP hS => ?_)
  obtain ⟨z_3, rfl, h_4⟩ := w_2
  refine xr_if_ne (tgt := 16) hx hb dX12_isAway_5 (by decide) (by omega) (fun h_5 => ?_) (fun h_5 => ?_)
  · refine lv_iconst (v := iI 1) hx hb dX12_isAway_16 rfl ?_
    refine lv_goto (tgt := 21) hx hb dX12_isAway_17 (by decide) ?_
    rw [← hQ]
    exact W.zret (v := iI 1) (ty := .boolean) hx hb hr (nb_bool (by omega) (by omega)) (fun t ht hW => ⟨⟨iI 1, (), rfl, ⟨1, rfl, by omega⟩, trivial⟩, hS.F ht⟩) hS.2.2 dX12_isAway_21
  · refine lv_aload_n hx hb dX12_isAway_8 rfl (lv_at hl 0 rfl) ?_
    refine lv_aload_n hx hb dX12_isAway_9 rfl (lv_at hl 1 rfl) ?_
    refine jc_i (va_runV (As := [.ref p1.toNat]) (rest := []) ⟨hx, hb, hml, hown, hts⟩ (sX12_isLater l dC dI _ L cid K N tW sK sV v p0 p1 hI q0 q1) (cwV 1 hts (jgoodV m_1031 m_1032 m_1033 m_873 m_1034) rfl rfl rfl (by decide +kernel) ⟨(Nat.le_of_ble_eq_true rfl), (Nat.le_of_ble_eq_true rfl)⟩) ⟨xP_blind, xrecv hK hP q0 rfl rfl, fun U hU hW => ⟨rfl, xP_of hU hW hP hK hDw hX hS hAw hAA⟩⟩ rfl rfl hl.1 rfl (lv_room (Nat.le_of_ble_eq_true rfl)) dX12_isAway_10 ⟨(Nat.le_of_ble_eq_true rfl), (Nat.le_of_ble_eq_true rfl)⟩) hP hS hA (fun r_6 H locs w_7 hP hS => ?_)
    obtain ⟨z_8, rfl, h_9⟩ := w_7
    refine xr_if_eq (tgt := 20) hx hb dX12_isAway_13 (by decide) (by omega) (fun h_10 => ?_) (fun h_10 => ?_)
    · refine lv_iconst (v := iI 0) hx hb dX12_isAway_20 rfl ?_
      rw [← hQ]
      exact W.zret (v := iI 0) (ty := .boolean) hx hb hr (nb_bool (by omega) (by omega)) (fun t ht hW => ⟨⟨iI 0, (), rfl, ⟨0, rfl, by omega⟩, trivial⟩, hS.F ht⟩) hS.2.2 dX12_isAway_21
    · refine lv_iconst (v := iI 1) hx hb dX12_isAway_16 rfl ?_
      refine lv_goto (tgt := 21) hx hb dX12_isAway_17 (by decide) ?_
      rw [← hQ]
      exact W.zret (v := iI 1) (ty := .boolean) hx hb hr (nb_bool (by omega) (by omega)) (fun t ht hW => ⟨⟨iI 1, (), rfl, ⟨1, rfl, by omega⟩, trivial⟩, hS.F ht⟩) hS.2.2 dX12_isAway_21
set_option maxHeartbeats 2000000 in
set_option maxRecDepth 100000 in
theorem sX12_endOf (l : Launch) (dC : Nat → ClassId) (dI : Nat → Nat → Nat) (sz : Nat) (L : List Nat) (cid : Nat → ClassId) (K : Int → Nat) (N : Int → Int) (tW : Nat) (sK sV : Nat → Nat) (v : Int → Int → Int) (p0 : Int) (p1 : Int) (hI : xI L K N v) (q0 : ok L K p0 12) (q1 : ok L K p1 0) : Met l yX12_endOf (jk yX12_endOf cX12_endOf 4 (some (.object "BookOfAll$Entry"))) ({ frames := 1, cells := 0, slots := 0, locals := 21 }) (va_Pc [.ref p0.toNat, .ref p1.toNat] (xP (dC, dI) (xG L cid K N v) (xT cid) tW sK sV sz)) (va_Qq (fun (r : Option Nat) (_ : Unit) => ∃ z : Int, r = opt z ∧ (z < 0 ∨ ok L K z 0)) (fun _ _ => True) (va_A [] sz)) 0 0 (va_A [] sz) := by
  refine Met.ofW (cc := cX12_endOf) (maxL := 4) (ret := (some (.object "BookOfAll$Entry"))) (by decide) rfl ?_
  intro p e s m args below meth c s₁ B hml hv
  obtain ⟨rfl, ⟨hsz, hP, hK, hD0⟩, hX⟩ := hv
  have hx := B.exec
  have hb := B.bytes
  have hr := B.returns
  have hts := atoms_spec (ws := (jk yX12_endOf cX12_endOf 4 (some (.object "BookOfAll$Entry")))) B.pre
  have hj : ∀ w ∈ jw, w.before ([.ref p0.toNat, .ref p1.toNat] : List Value).toArray s = true := fun w h => hts w (jm h)
  have hown : s.vm.findClass RX12 = some m.cls := findClass_of_methodNamed B.named
  subst hsz
  have hDw := hD0.self (sz := s.heap.size)
  have hAA : ∀ q : Nat, s.heap.size ≤ q → va_A (xG L cid K N v) s.heap.size q := fun q h => Or.inr h
  have hAw : ∀ q, va_A [] s.heap.size q → va_A (xG L cid K N v) s.heap.size q := ja_nil va_S.rf hAA
  generalize hAe : (va_A [] s.heap.size) = A at hAw ⊢
  have hA : ∀ q : Nat, s.heap.size ≤ q → A q := fun q h => by rw [← hAe]; exact Or.inr h
  have hS : va_S A s.heap s.heap [] := va_S.rf
  have hXa := hX.nar hAw
  have hP : va_P (dC, dI) vwCl (xG L cid K N v) s.heap := hP
  have hl := lv_entry ([.ref p0.toNat, .ref p1.toNat]) (n := 4) (Nat.le_of_ble_eq_true rfl)
  rw [lg_entry_eq]
  generalize (lg_sl ([.ref p0.toNat, .ref p1.toNat]) ++ List.replicate (4 - (lg_sl ([.ref p0.toNat, .ref p1.toNat])).length) Slot.unset).toArray = ls at hl ⊢
  have hl : lv_has ls 4 [(0, .ref p0.toNat), (1, .ref p1.toNat)] := hl
  generalize hQ : MQ below (va_Qq (fun (r : Option Nat) (_ : Unit) => ∃ z : Int, r = opt z ∧ (z < 0 ∨ ok L K z 0)) (fun _ _ => True) A) ([.ref p0.toNat, .ref p1.toNat] : List Value).toArray s 0 0 A = Q
  suffices ST : ∀ (H : Heap) (locs : List Loc), va_P (dC, dI) vwCl (xG L cid K N v) H → va_S A s.heap H locs → W p l e ({ frames := 1, cells := 0, slots := 0, locals := 21 }) s m ([.ref p0.toNat, .ref p1.toNat] : List Value).toArray below meth c H locs 0 0 Q (F0 m 0 ls []) from ST _ _ hP hS
  clear hP hS
  intro H locs hP hS
  refine lv_aload_n hx hb dX12_endOf_0 rfl (lv_at hl 1 rfl) ?_
  refine lv_astore_n (i := 2) (lv' := [(2, .ref p1.toNat), (0, .ref p0.toNat), (1, .ref p1.toNat)]) hx hb dX12_endOf_1 rfl hl (by decide) rfl (fun ls hl => ?_)
  refine lv_iconst (v := iI 0) hx hb dX12_endOf_2 rfl ?_
  refine lv_istore_n (i := 3) (lv' := [(3, .int (iI 0)), (2, .ref p1.toNat), (0, .ref p0.toNat), (1, .ref p1.toNat)]) hx hb dX12_endOf_3 rfl hl (by decide) rfl (fun ls hl => ?_)
  have L4 : ∀ (n4 : Nat) (a3_4 a2_4 : Int) (H : Heap) (locs : List Loc) (ls : Array Slot), (0 ≤ a3_4 ∧ a3_4 ≤ 2147483647) → (a2_4 < 0 ∨ ok L K a2_4 0) → (0 < (n4 : Int) ∧ (v p0 7) - a3_4 + 1 < (n4 : Int)) → va_P (dC, dI) vwCl (xG L cid K N v) H → va_S A s.heap H locs → lv_has ls 4 [(3, .int (iI a3_4)), (2, rv a2_4), (0, .ref p0.toNat), (1, .ref p1.toNat)] → W p l e ({ frames := 1, cells := 0, slots := 0, locals := 21 }) s m ([.ref p0.toNat, .ref p1.toNat] : List Value).toArray below meth c H locs 0 0 Q (F0 m 4 ls []) := by
    intro n4
    induction n4 with
    | zero =>
      intro a3_4 a2_4 H locs ls h_1 h_2 hm4 hP hS hl
      exfalso; omega
    | succ n4 ih4 =>
      intro a3_4 a2_4 H locs ls h_3 h_4 hm4 hP hS hl
      refine lv_iload_n hx hb dX12_endOf_4 rfl (lv_at hl 0 rfl) ?_
      refine lv_aload_n hx hb dX12_endOf_5 rfl (lv_at hl 2 rfl) ?_
      have h_5 : 0 ≤ v p0 7 ∧ v p0 7 ≤ 60 := xf_12_7 hI q0
      refine gx_RX12_203 (y := v p0 7) hx hb hj hown hK hP q0 rfl dX12_endOf_6 ?_
      refine xr_icmp_gt (tgt := 41) hx hb dX12_endOf_9 (by decide) (by omega) (by omega) (fun h_6 => ?_) (fun h_6 => ?_)
      · refine lv_null hx hb dX12_endOf_41 ?_
        refine jt_q (rv (-1)) rv_nul ?_
        rw [← hQ]
        exact W.aret (v := rv (-1)) hx hb hr (Or.inl ⟨_, rfl⟩) (rv_or (-1)) (fun t ht hW => ⟨⟨opt (-1), (), rfl, ⟨-1, rfl, (Or.inl (by decide))⟩, trivial⟩, hS.F ht⟩) hS.2.2 dX12_endOf_42
      · refine xq_aload_n hx hb dX12_endOf_12 rfl (lv_at hl 1 rfl) ?_
        refine xq_ifnull (tgt := 41) hx hb dX12_endOf_13 (by decide) (fun h_7 => ?_) (fun h_7 => ?_)
        · refine lv_null hx hb dX12_endOf_41 ?_
          refine jt_q (rv (-1)) rv_nul ?_
          rw [← hQ]
          exact W.aret (v := rv (-1)) hx hb hr (Or.inl ⟨_, rfl⟩) (rv_or (-1)) (fun t ht hW => ⟨⟨opt (-1), (), rfl, ⟨-1, rfl, (Or.inl (by decide))⟩, trivial⟩, hS.F ht⟩) hS.2.2 dX12_endOf_42
        · have h_8 : ok L K a2_4 0 := h_4.resolve_left (by omega)
          refine xq_aload_n hx hb dX12_endOf_16 rfl (lv_at hl 1 rfl) ?_
          refine jt_q (.ref a2_4.toNat) (rv_ref (h_8).1) ?_
          have h_9 : (-2147483648) ≤ v a2_4 1 ∧ v a2_4 1 ≤ 2147483647 := xf_0_1 hI h_8
          refine gx_RX12_240 (y := v a2_4 1) hx hb hj hown hK hP h_8 rfl dX12_endOf_17 ?_
          refine lv_iconst (v := iI 1) hx hb dX12_endOf_20 rfl ?_
          refine xr_icmp_eq (tgt := 26) hx hb dX12_endOf_21 (by decide) (by omega) (by omega) (fun h_10 => ?_) (fun h_10 => ?_)
          · refine lv_aload_n hx hb dX12_endOf_26 rfl (lv_at hl 2 rfl) ?_
            refine xq_aload_n hx hb dX12_endOf_27 rfl (lv_at hl 1 rfl) ?_
            refine jt_q (.ref a2_4.toNat) (rv_ref (h_8).1) ?_
            have h_11 : (-2147483648) ≤ v a2_4 10 ∧ v a2_4 10 ≤ 2147483647 := xf_0_10 hI h_8
            refine gx_RX12_193 (y := v a2_4 10) hx hb hj hown hK hP h_8 rfl dX12_endOf_28 ?_
            refine jc_q (va_runV (As := [.int (iI (v a2_4 10))]) (rest := []) ⟨hx, hb, hml, hown, hts⟩ (sX12_entryAt l dC dI _ L cid K N tW sK sV v p0 (v a2_4 10) hI q0 (by omega)) (cwV 1 hts (jgoodV m_870 m_871 m_872 m_873 m_874) rfl rfl rfl (by decide +kernel) ⟨(Nat.le_of_ble_eq_true rfl), (Nat.le_of_ble_eq_true rfl)⟩) ⟨xP_blind, xrecv hK hP q0 rfl rfl, fun U hU hW => ⟨rfl, xP_of hU hW hP hK hDw hX hS hAw hAA⟩⟩ rfl rfl hl.1 rfl (lv_room (Nat.le_of_ble_eq_true rfl)) dX12_endOf_31 ⟨(Nat.le_of_ble_eq_true rfl), (Nat.le_of_ble_eq_true rfl)⟩) hP hS hA (fun r_12 H locs w_13 hP hS => ?_)
            obtain ⟨z_14, rfl, h_15⟩ := w_13
            refine jt_q (rv z_14) rfl ?_
            refine xq_astore_n (i := 2) (lv' := [(2, rv z_14), (3, .int (iI a3_4)), (0, .ref p0.toNat), (1, .ref p1.toNat)]) hx hb dX12_endOf_34 rfl hl (by decide) rfl (fun ls hl => ?_)
            refine lv_iinc (v := iI (a3_4 + 1)) (lv' := [(3, .int (iI (a3_4 + 1))), (2, rv z_14), (0, .ref p0.toNat), (1, .ref p1.toNat)]) hx hb dX12_endOf_35 hl (k := 1) rfl (iI_add _ _) (by decide) (by simp [rv_cat]) (fun ls hl => ?_)
            refine lv_goto (tgt := 4) hx hb dX12_endOf_38 (by decide) ?_
            exact ih4 (a3_4 + 1) z_14 H locs ls (by omega) h_15 (by omega) hP hS hl
          · refine xq_aload_n hx hb dX12_endOf_24 rfl (lv_at hl 1 rfl) ?_
            refine jt_q (.ref a2_4.toNat) (rv_ref (h_8).1) ?_
            rw [← hQ]
            refine jt_q (rv a2_4) (rv_ref (h_8).1).symm ?_
            exact W.aret (v := rv a2_4) hx hb hr (Or.inl ⟨_, rfl⟩) (rv_or a2_4) (fun t ht hW => ⟨⟨opt a2_4, (), rfl, ⟨a2_4, rfl, (Or.inr h_8)⟩, trivial⟩, hS.F ht⟩) hS.2.2 dX12_endOf_25
  exact L4 ((((v p0 7) - 0 + 1 : Int)).toNat + 1) 0 p1 H locs ls (by omega) (Or.inr q1) (by omega) hP hS (by rw [rv_ref (q1).1]; exact hl)
set_option maxHeartbeats 2000000 in
set_option maxRecDepth 100000 in
theorem sX12_isBrokenOnTheWay (l : Launch) (dC : Nat → ClassId) (dI : Nat → Nat → Nat) (sz : Nat) (L : List Nat) (cid : Nat → ClassId) (K : Int → Nat) (N : Int → Int) (tW : Nat) (sK sV : Nat → Nat) (v : Int → Int → Int) (p0 : Int) (p1 : Int) (hI : xI L K N v) (q0 : ok L K p0 12) (q1 : ok L K p1 0) : Met l yX12_isBrokenOnTheWay (jk yX12_isBrokenOnTheWay cX12_isBrokenOnTheWay 4 (some .boolean)) ({ frames := 3, cells := 0, slots := 0, locals := 63 }) (va_Pc [.ref p0.toNat, .ref p1.toNat] (xP (dC, dI) (xG L cid K N v) (xT cid) tW sK sV sz)) (va_Qi (fun (r : Int32) (_ : Unit) => ∃ z : Int, r = iI z ∧ (0 ≤ z ∧ z ≤ 1)) (fun _ _ => True) (va_A [] sz)) 0 0 (va_A [] sz) := by
  refine Met.ofW (cc := cX12_isBrokenOnTheWay) (maxL := 4) (ret := (some .boolean)) (by decide) rfl ?_
  intro p e s m args below meth c s₁ B hml hv
  obtain ⟨rfl, ⟨hsz, hP, hK, hD0⟩, hX⟩ := hv
  have hx := B.exec
  have hb := B.bytes
  have hr := B.returns
  have hts := atoms_spec (ws := (jk yX12_isBrokenOnTheWay cX12_isBrokenOnTheWay 4 (some .boolean))) B.pre
  have hj : ∀ w ∈ jw, w.before ([.ref p0.toNat, .ref p1.toNat] : List Value).toArray s = true := fun w h => hts w (jm h)
  have hown : s.vm.findClass RX12 = some m.cls := findClass_of_methodNamed B.named
  subst hsz
  have hDw := hD0.self (sz := s.heap.size)
  have hAA : ∀ q : Nat, s.heap.size ≤ q → va_A (xG L cid K N v) s.heap.size q := fun q h => Or.inr h
  have hAw : ∀ q, va_A [] s.heap.size q → va_A (xG L cid K N v) s.heap.size q := ja_nil va_S.rf hAA
  generalize hAe : (va_A [] s.heap.size) = A at hAw ⊢
  have hA : ∀ q : Nat, s.heap.size ≤ q → A q := fun q h => by rw [← hAe]; exact Or.inr h
  have hS : va_S A s.heap s.heap [] := va_S.rf
  have hXa := hX.nar hAw
  have hP : va_P (dC, dI) vwCl (xG L cid K N v) s.heap := hP
  have hl := lv_entry ([.ref p0.toNat, .ref p1.toNat]) (n := 4) (Nat.le_of_ble_eq_true rfl)
  rw [lg_entry_eq]
  generalize (lg_sl ([.ref p0.toNat, .ref p1.toNat]) ++ List.replicate (4 - (lg_sl ([.ref p0.toNat, .ref p1.toNat])).length) Slot.unset).toArray = ls at hl ⊢
  have hl : lv_has ls 4 [(0, .ref p0.toNat), (1, .ref p1.toNat)] := hl
  generalize hQ : MQ below (va_Qi (fun (r : Int32) (_ : Unit) => ∃ z : Int, r = iI z ∧ (0 ≤ z ∧ z ≤ 1)) (fun _ _ => True) A) ([.ref p0.toNat, .ref p1.toNat] : List Value).toArray s 0 0 A = Q
  suffices ST : ∀ (H : Heap) (locs : List Loc), va_P (dC, dI) vwCl (xG L cid K N v) H → va_S A s.heap H locs → W p l e ({ frames := 3, cells := 0, slots := 0, locals := 63 }) s m ([.ref p0.toNat, .ref p1.toNat] : List Value).toArray below meth c H locs 0 0 Q (F0 m 0 ls []) from ST _ _ hP hS
  clear hP hS
  intro H locs hP hS
  refine lv_aload_n hx hb dX12_isBrokenOnTheWay_0 rfl (lv_at hl 1 rfl) ?_
  refine lv_astore_n (i := 2) (lv' := [(2, .ref p1.toNat), (0, .ref p0.toNat), (1, .ref p1.toNat)]) hx hb dX12_isBrokenOnTheWay_1 rfl hl (by decide) rfl (fun ls hl => ?_)
  refine lv_iconst (v := iI 0) hx hb dX12_isBrokenOnTheWay_2 rfl ?_
  refine lv_istore_n (i := 3) (lv' := [(3, .int (iI 0)), (2, .ref p1.toNat), (0, .ref p0.toNat), (1, .ref p1.toNat)]) hx hb dX12_isBrokenOnTheWay_3 rfl hl (by decide) rfl (fun ls hl => ?_)
  have L4 : ∀ (n4 : Nat) (a3_4 a2_4 : Int) (H : Heap) (locs : List Loc) (ls : Array Slot), (0 ≤ a3_4 ∧ a3_4 ≤ 2147483647) → (a2_4 < 0 ∨ ok L K a2_4 0) → (0 < (n4 : Int) ∧ (v p0 7) - a3_4 + 1 < (n4 : Int)) → va_P (dC, dI) vwCl (xG L cid K N v) H → va_S A s.heap H locs → lv_has ls 4 [(3, .int (iI a3_4)), (2, rv a2_4), (0, .ref p0.toNat), (1, .ref p1.toNat)] → W p l e ({ frames := 3, cells := 0, slots := 0, locals := 63 }) s m ([.ref p0.toNat, .ref p1.toNat] : List Value).toArray below meth c H locs 0 0 Q (F0 m 4 ls []) := by
    intro n4
    induction n4 with
    | zero =>
      intro a3_4 a2_4 H locs ls h_1 h_2 hm4 hP hS hl
      exfalso; omega
    | succ n4 ih4 =>
      intro a3_4 a2_4 H locs ls h_3 h_4 hm4 hP hS hl
      refine lv_iload_n hx hb dX12_isBrokenOnTheWay_4 rfl (lv_at hl 0 rfl) ?_
      refine lv_aload_n hx hb dX12_isBrokenOnTheWay_5 rfl (lv_at hl 2 rfl) ?_
      have h_5 : 0 ≤ v p0 7 ∧ v p0 7 ≤ 60 := xf_12_7 hI q0
      refine gx_RX12_203 (y := v p0 7) hx hb hj hown hK hP q0 rfl dX12_isBrokenOnTheWay_6 ?_
      refine xr_icmp_gt (tgt := 49) hx hb dX12_isBrokenOnTheWay_9 (by decide) (by omega) (by omega) (fun h_6 => ?_) (fun h_6 => ?_)
      · refine lv_iconst (v := iI 0) hx hb dX12_isBrokenOnTheWay_49 rfl ?_
        rw [← hQ]
        exact W.zret (v := iI 0) (ty := .boolean) hx hb hr (nb_bool (by omega) (by omega)) (fun t ht hW => ⟨⟨iI 0, (), rfl, ⟨0, rfl, by omega⟩, trivial⟩, hS.F ht⟩) hS.2.2 dX12_isBrokenOnTheWay_50
      · refine xq_aload_n hx hb dX12_isBrokenOnTheWay_12 rfl (lv_at hl 1 rfl) ?_
        refine xq_ifnull (tgt := 49) hx hb dX12_isBrokenOnTheWay_13 (by decide) (fun h_7 => ?_) (fun h_7 => ?_)
        · refine lv_iconst (v := iI 0) hx hb dX12_isBrokenOnTheWay_49 rfl ?_
          rw [← hQ]
          exact W.zret (v := iI 0) (ty := .boolean) hx hb hr (nb_bool (by omega) (by omega)) (fun t ht hW => ⟨⟨iI 0, (), rfl, ⟨0, rfl, by omega⟩, trivial⟩, hS.F ht⟩) hS.2.2 dX12_isBrokenOnTheWay_50
        · have h_8 : ok L K a2_4 0 := h_4.resolve_left (by omega)
          refine xq_aload_n hx hb dX12_isBrokenOnTheWay_16 rfl (lv_at hl 1 rfl) ?_
          refine jt_q (.ref a2_4.toNat) (rv_ref (h_8).1) ?_
          have h_9 : (-2147483648) ≤ v a2_4 1 ∧ v a2_4 1 ≤ 2147483647 := xf_0_1 hI h_8
          refine gx_RX12_240 (y := v a2_4 1) hx hb hj hown hK hP h_8 rfl dX12_isBrokenOnTheWay_17 ?_
          refine lv_iconst (v := iI 1) hx hb dX12_isBrokenOnTheWay_20 rfl ?_
          refine xr_icmp_ne (tgt := 49) hx hb dX12_isBrokenOnTheWay_21 (by decide) (by omega) (by omega) (fun h_10 => ?_) (fun h_10 => ?_)
          · refine lv_iconst (v := iI 0) hx hb dX12_isBrokenOnTheWay_49 rfl ?_
            rw [← hQ]
            exact W.zret (v := iI 0) (ty := .boolean) hx hb hr (nb_bool (by omega) (by omega)) (fun t ht hW => ⟨⟨iI 0, (), rfl, ⟨0, rfl, by omega⟩, trivial⟩, hS.F ht⟩) hS.2.2 dX12_isBrokenOnTheWay_50
          · refine lv_aload_n hx hb dX12_isBrokenOnTheWay_24 rfl (lv_at hl 2 rfl) ?_
            refine xq_aload_n hx hb dX12_isBrokenOnTheWay_25 rfl (lv_at hl 1 rfl) ?_
            refine jt_q (.ref a2_4.toNat) (rv_ref (h_8).1) ?_
            refine jc_i (va_runV (As := [.ref a2_4.toNat]) (rest := []) ⟨hx, hb, hml, hown, hts⟩ (sX12_isAway l dC dI _ L cid K N tW sK sV v p0 a2_4 hI q0 h_8) (cwV 1 hts (jgoodV m_1158 m_1159 m_1160 m_873 m_1161) rfl rfl rfl (by decide +kernel) ⟨(Nat.le_of_ble_eq_true rfl), (Nat.le_of_ble_eq_true rfl)⟩) ⟨xP_blind, xrecv hK hP q0 rfl rfl, fun U hU hW => ⟨rfl, xP_of hU hW hP hK hDw hX hS hAw hAA⟩⟩ rfl rfl hl.1 rfl (lv_room (Nat.le_of_ble_eq_true rfl)) dX12_isBrokenOnTheWay_26 ⟨(Nat.le_of_ble_eq_true rfl), (Nat.le_of_ble_eq_true rfl)⟩) hP hS hA (fun r_11 H locs w_12 hP hS => ?_)
            obtain ⟨z_13, rfl, h_14⟩ := w_12
            refine xr_if_eq (tgt := 34) hx hb dX12_isBrokenOnTheWay_29 (by decide) (by omega) (fun h_15 => ?_) (fun h_15 => ?_)
            · refine lv_aload_n hx hb dX12_isBrokenOnTheWay_34 rfl (lv_at hl 2 rfl) ?_
              refine xq_aload_n hx hb dX12_isBrokenOnTheWay_35 rfl (lv_at hl 1 rfl) ?_
              refine jt_q (.ref a2_4.toNat) (rv_ref (h_8).1) ?_
              have h_16 : (-2147483648) ≤ v a2_4 10 ∧ v a2_4 10 ≤ 2147483647 := xf_0_10 hI h_8
              refine gx_RX12_193 (y := v a2_4 10) hx hb hj hown hK hP h_8 rfl dX12_isBrokenOnTheWay_36 ?_
              refine jc_q (va_runV (As := [.int (iI (v a2_4 10))]) (rest := []) ⟨hx, hb, hml, hown, hts⟩ (sX12_entryAt l dC dI _ L cid K N tW sK sV v p0 (v a2_4 10) hI q0 (by omega)) (cwV 1 hts (jgoodV m_870 m_871 m_872 m_873 m_874) rfl rfl rfl (by decide +kernel) ⟨(Nat.le_of_ble_eq_true rfl), (Nat.le_of_ble_eq_true rfl)⟩) ⟨xP_blind, xrecv hK hP q0 rfl rfl, fun U hU hW => ⟨rfl, xP_of hU hW hP hK hDw hX hS hAw hAA⟩⟩ rfl rfl hl.1 rfl (lv_room (Nat.le_of_ble_eq_true rfl)) dX12_isBrokenOnTheWay_39 ⟨(Nat.le_of_ble_eq_true rfl), (Nat.le_of_ble_eq_true rfl)⟩) hP hS hA (fun r_17 H locs w_18 hP hS => ?_)
              obtain ⟨z_19, rfl, h_20⟩ := w_18
              refine jt_q (rv z_19) rfl ?_
              refine xq_astore_n (i := 2) (lv' := [(2, rv z_19), (3, .int (iI a3_4)), (0, .ref p0.toNat), (1, .ref p1.toNat)]) hx hb dX12_isBrokenOnTheWay_42 rfl hl (by decide) rfl (fun ls hl => ?_)
              refine lv_iinc (v := iI (a3_4 + 1)) (lv' := [(3, .int (iI (a3_4 + 1))), (2, rv z_19), (0, .ref p0.toNat), (1, .ref p1.toNat)]) hx hb dX12_isBrokenOnTheWay_43 hl (k := 1) rfl (iI_add _ _) (by decide) (by simp [rv_cat]) (fun ls hl => ?_)
              refine lv_goto (tgt := 4) hx hb dX12_isBrokenOnTheWay_46 (by decide) ?_
              exact ih4 (a3_4 + 1) z_19 H locs ls (by omega) h_20 (by omega) hP hS hl
            · refine lv_iconst (v := iI 1) hx hb dX12_isBrokenOnTheWay_32 rfl ?_
              rw [← hQ]
              exact W.zret (v := iI 1) (ty := .boolean) hx hb hr (nb_bool (by omega) (by omega)) (fun t ht hW => ⟨⟨iI 1, (), rfl, ⟨1, rfl, by omega⟩, trivial⟩, hS.F ht⟩) hS.2.2 dX12_isBrokenOnTheWay_33
  exact L4 ((((v p0 7) - 0 + 1 : Int)).toNat + 1) 0 p1 H locs ls (by omega) (Or.inr q1) (by omega) hP hS (by rw [rv_ref (q1).1]; exact hl)
set_option maxHeartbeats 2000000 in
set_option maxRecDepth 100000 in
theorem sX12_promise (l : Launch) (dC : Nat → ClassId) (dI : Nat → Nat → Nat) (sz : Nat) (L : List Nat) (cid : Nat → ClassId) (K : Int → Nat) (N : Int → Int) (tW : Nat) (sK sV : Nat → Nat) (v : Int → Int → Int) (p0 : Int) (p1 : Int) (hI : xI L K N v) (q0 : ok L K p0 12) (q1 : rg p1) : Met l yX12_promise (jk yX12_promise cX12_promise 4 (some .int)) ({ frames := 4, cells := 0, slots := 0, locals := 86 }) (va_Pc [.ref p0.toNat, .int (iI p1)] (xP (dC, dI) (xG L cid K N v) (xT cid) tW sK sV sz)) (va_Qi (fun (r : Int32) (_ : Unit) => ∃ z : Int, r = iI z ∧ (rg z)) (fun _ _ => True) (va_A [] sz)) 0 0 (va_A [] sz) := by
  refine Met.ofW (cc := cX12_promise) (maxL := 4) (ret := (some .int)) (by decide) rfl ?_
  intro p e s m args below meth c s₁ B hml hv
  obtain ⟨rfl, ⟨hsz, hP, hK, hD0⟩, hX⟩ := hv
  have hx := B.exec
  have hb := B.bytes
  have hr := B.returns
  have hts := atoms_spec (ws := (jk yX12_promise cX12_promise 4 (some .int))) B.pre
  have hj : ∀ w ∈ jw, w.before ([.ref p0.toNat, .int (iI p1)] : List Value).toArray s = true := fun w h => hts w (jm h)
  have hown : s.vm.findClass RX12 = some m.cls := findClass_of_methodNamed B.named
  subst hsz
  have hDw := hD0.self (sz := s.heap.size)
  have hAA : ∀ q : Nat, s.heap.size ≤ q → va_A (xG L cid K N v) s.heap.size q := fun q h => Or.inr h
  have hAw : ∀ q, va_A [] s.heap.size q → va_A (xG L cid K N v) s.heap.size q := ja_nil va_S.rf hAA
  generalize hAe : (va_A [] s.heap.size) = A at hAw ⊢
  have hA : ∀ q : Nat, s.heap.size ≤ q → A q := fun q h => by rw [← hAe]; exact Or.inr h
  have hS : va_S A s.heap s.heap [] := va_S.rf
  have hXa := hX.nar hAw
  have hP : va_P (dC, dI) vwCl (xG L cid K N v) s.heap := hP
  have hl := lv_entry ([.ref p0.toNat, .int (iI p1)]) (n := 4) (Nat.le_of_ble_eq_true rfl)
  rw [lg_entry_eq]
  generalize (lg_sl ([.ref p0.toNat, .int (iI p1)]) ++ List.replicate (4 - (lg_sl ([.ref p0.toNat, .int (iI p1)])).length) Slot.unset).toArray = ls at hl ⊢
  have hl : lv_has ls 4 [(0, .ref p0.toNat), (1, .int (iI p1))] := hl
  generalize hQ : MQ below (va_Qi (fun (r : Int32) (_ : Unit) => ∃ z : Int, r = iI z ∧ (rg z)) (fun _ _ => True) A) ([.ref p0.toNat, .int (iI p1)] : List Value).toArray s 0 0 A = Q
  suffices ST : ∀ (H : Heap) (locs : List Loc), va_P (dC, dI) vwCl (xG L cid K N v) H → va_S A s.heap H locs → W p l e ({ frames := 4, cells := 0, slots := 0, locals := 86 }) s m ([.ref p0.toNat, .int (iI p1)] : List Value).toArray below meth c H locs 0 0 Q (F0 m 0 ls []) from ST _ _ hP hS
  clear hP hS
  intro H locs hP hS
  refine lv_aload_n hx hb dX12_promise_0 rfl (lv_at hl 0 rfl) ?_
  refine lv_iload_n hx hb dX12_promise_1 rfl (lv_at hl 1 rfl) ?_
  refine lv_iconst (v := iI 1) hx hb dX12_promise_2 rfl ?_
  refine jc_q (va_runV (As := [.int (iI p1), .int (iI 1)]) (rest := []) ⟨hx, hb, hml, hown, hts⟩ (sX12_entryOfKind l dC dI _ L cid K N tW sK sV v p0 p1 1 hI q0 (by omega) (by omega)) (cwV 2 hts (jgoodV m_1027 m_1028 m_1029 m_873 m_1030) rfl rfl rfl (by decide +kernel) ⟨(Nat.le_of_ble_eq_true rfl), (Nat.le_of_ble_eq_true rfl)⟩) ⟨xP_blind, xrecv hK hP q0 rfl rfl, fun U hU hW => ⟨rfl, xP_of hU hW hP hK hDw hX hS hAw hAA⟩⟩ rfl rfl hl.1 rfl (lv_room (Nat.le_of_ble_eq_true rfl)) dX12_promise_3 ⟨(Nat.le_of_ble_eq_true rfl), (Nat.le_of_ble_eq_true rfl)⟩) hP hS hA (fun r_1 H locs w_2 hP hS => ?_)
  obtain ⟨z_3, rfl, h_4⟩ := w_2
  refine jt_q (rv z_3) rfl ?_
  refine xq_astore_n (i := 2) (lv' := [(2, rv z_3), (0, .ref p0.toNat), (1, .int (iI p1))]) hx hb dX12_promise_6 rfl hl (by decide) rfl (fun ls hl => ?_)
  refine xq_aload_n hx hb dX12_promise_7 rfl (lv_at hl 0 rfl) ?_
  refine xq_ifnull (tgt := 19) hx hb dX12_promise_8 (by decide) (fun h_5 => ?_) (fun h_5 => ?_)
  · refine lv_iconst (v := iI (-1)) hx hb dX12_promise_19 rfl ?_
    rw [← hQ]
    exact W.iret (v := iI (-1)) hx hb hr (fun t ht hW => ⟨⟨iI (-1), (), rfl, ⟨(-1), rfl, by omega⟩, trivial⟩, hS.F ht⟩) hS.2.2 dX12_promise_20
  · have h_6 : ok L K z_3 0 := h_4.resolve_left (by omega)
    refine lv_aload_n hx hb dX12_promise_11 rfl (lv_at hl 1 rfl) ?_
    refine xq_aload_n hx hb dX12_promise_12 rfl (lv_at hl 0 rfl) ?_
    refine jt_q (.ref z_3.toNat) (rv_ref (h_6).1) ?_
    refine jc_i (va_runV (As := [.ref z_3.toNat]) (rest := []) ⟨hx, hb, hml, hown, hts⟩ (sX12_isAway l dC dI _ L cid K N tW sK sV v p0 z_3 hI q0 h_6) (cwV 1 hts (jgoodV m_1158 m_1159 m_1160 m_873 m_1161) rfl rfl rfl (by decide +kernel) ⟨(Nat.le_of_ble_eq_true rfl), (Nat.le_of_ble_eq_true rfl)⟩) ⟨xP_blind, xrecv hK hP q0 rfl rfl, fun U hU hW => ⟨rfl, xP_of hU hW hP hK hDw hX hS hAw hAA⟩⟩ rfl rfl hl.1 rfl (lv_room (Nat.le_of_ble_eq_true rfl)) dX12_promise_13 ⟨(Nat.le_of_ble_eq_true rfl), (Nat.le_of_ble_eq_true rfl)⟩) hP hS hA (fun r_7 H locs w_8 hP hS => ?_)
    obtain ⟨z_9, rfl, h_10⟩ := w_8
    refine xr_if_eq (tgt := 21) hx hb dX12_promise_16 (by decide) (by omega) (fun h_11 => ?_) (fun h_11 => ?_)
    · refine lv_aload_n hx hb dX12_promise_21 rfl (lv_at hl 1 rfl) ?_
      refine xq_aload_n hx hb dX12_promise_22 rfl (lv_at hl 0 rfl) ?_
      refine jt_q (.ref z_3.toNat) (rv_ref (h_6).1) ?_
      refine jc_q (va_runV (As := [.ref z_3.toNat]) (rest := []) ⟨hx, hb, hml, hown, hts⟩ (sX12_endOf l dC dI _ L cid K N tW sK sV v p0 z_3 hI q0 h_6) (cwV 1 hts (jgoodV m_1162 m_1163 m_1164 m_873 m_1165) rfl rfl rfl (by decide +kernel) ⟨(Nat.le_of_ble_eq_true rfl), (Nat.le_of_ble_eq_true rfl)⟩) ⟨xP_blind, xrecv hK hP q0 rfl rfl, fun U hU hW => ⟨rfl, xP_of hU hW hP hK hDw hX hS hAw hAA⟩⟩ rfl rfl hl.1 rfl (lv_room (Nat.le_of_ble_eq_true rfl)) dX12_promise_23 ⟨(Nat.le_of_ble_eq_true rfl), (Nat.le_of_ble_eq_true rfl)⟩) hP hS hA (fun r_12 H locs w_13 hP hS => ?_)
      obtain ⟨z_14, rfl, h_15⟩ := w_13
      refine jt_q (rv z_14) rfl ?_
      refine xq_astore_n (i := 3) (lv' := [(3, rv z_14), (2, rv z_3), (0, .ref p0.toNat), (1, .int (iI p1))]) hx hb dX12_promise_26 rfl hl (by decide) (by simp [rv_cat]) (fun ls hl => ?_)
      refine xq_aload_n hx hb dX12_promise_27 rfl (lv_at hl 0 rfl) ?_
      refine xq_ifnonnull (tgt := 33) hx hb dX12_promise_28 (by decide) (fun h_16 => ?_) (fun h_16 => ?_)
      · have h_17 : ok L K z_14 0 := h_15.resolve_left (by omega)
        refine lv_aload_n hx hb dX12_promise_33 rfl (lv_at hl 2 rfl) ?_
        refine xq_aload_n hx hb dX12_promise_34 rfl (lv_at hl 0 rfl) ?_
        refine jt_q (.ref z_14.toNat) (rv_ref (h_17).1) ?_
        refine jc_i (va_runV (As := [.ref z_14.toNat]) (rest := []) ⟨hx, hb, hml, hown, hts⟩ (sX12_isAway l dC dI _ L cid K N tW sK sV v p0 z_14 hI q0 h_17) (cwV 1 hts (jgoodV m_1158 m_1159 m_1160 m_873 m_1161) rfl rfl rfl (by decide +kernel) ⟨(Nat.le_of_ble_eq_true rfl), (Nat.le_of_ble_eq_true rfl)⟩) ⟨xP_blind, xrecv hK hP q0 rfl rfl, fun U hU hW => ⟨rfl, xP_of hU hW hP hK hDw hX hS hAw hAA⟩⟩ rfl rfl hl.1 rfl (lv_room (Nat.le_of_ble_eq_true rfl)) dX12_promise_35 ⟨(Nat.le_of_ble_eq_true rfl), (Nat.le_of_ble_eq_true rfl)⟩) hP hS hA (fun r_18 H locs w_19 hP hS => ?_)
        obtain ⟨z_20, rfl, h_21⟩ := w_19
        refine xr_if_ne (tgt := 49) hx hb dX12_promise_38 (by decide) (by omega) (fun h_22 => ?_) (fun h_22 => ?_)
        · refine lv_iconst (v := iI 2) hx hb dX12_promise_49 rfl ?_
          rw [← hQ]
          exact W.iret (v := iI 2) hx hb hr (fun t ht hW => ⟨⟨iI 2, (), rfl, ⟨2, rfl, by omega⟩, trivial⟩, hS.F ht⟩) hS.2.2 dX12_promise_50
        · refine lv_aload_n hx hb dX12_promise_41 rfl (lv_at hl 2 rfl) ?_
          refine xq_aload_n hx hb dX12_promise_42 rfl (lv_at hl 1 rfl) ?_
          refine jt_q (.ref z_3.toNat) (rv_ref (h_6).1) ?_
          refine jc_i (va_runV (As := [.ref z_3.toNat]) (rest := []) ⟨hx, hb, hml, hown, hts⟩ (sX12_isBrokenOnTheWay l dC dI _ L cid K N tW sK sV v p0 z_3 hI q0 h_6) (cwV 1 hts (jgoodV m_1166 m_1167 m_1168 m_873 m_1169) rfl rfl rfl (by decide +kernel) ⟨(Nat.le_of_ble_eq_true rfl), (Nat.le_of_ble_eq_true rfl)⟩) ⟨xP_blind, xrecv hK hP q0 rfl rfl, fun U hU hW => ⟨rfl, xP_of hU hW hP hK hDw hX hS hAw hAA⟩⟩ rfl rfl hl.1 rfl (lv_room (Nat.le_of_ble_eq_true rfl)) dX12_promise_43 ⟨(Nat.le_of_ble_eq_true rfl), (Nat.le_of_ble_eq_true rfl)⟩) hP hS hA (fun r_23 H locs w_24 hP hS => ?_)
          obtain ⟨z_25, rfl, h_26⟩ := w_24
          refine xr_if_eq (tgt := 51) hx hb dX12_promise_46 (by decide) (by omega) (fun h_27 => ?_) (fun h_27 => ?_)
          · refine xq_aload_n hx hb dX12_promise_51 rfl (lv_at hl 0 rfl) ?_
            refine jt_q (.ref z_14.toNat) (rv_ref (h_17).1) ?_
            have h_28 : (-2147483648) ≤ v z_14 12 ∧ v z_14 12 ≤ 2147483647 := xf_0_12 hI h_17
            refine gx_RX12_247 (y := v z_14 12) hx hb hj hown hK hP h_17 rfl dX12_promise_52 ?_
            refine lv_iconst (v := iI (-1)) hx hb dX12_promise_55 rfl ?_
            refine xr_icmp_eq (tgt := 63) hx hb dX12_promise_56 (by decide) (by omega) (by omega) (fun h_29 => ?_) (fun h_29 => ?_)
            · refine lv_iconst (v := iI 1) hx hb dX12_promise_63 rfl ?_
              rw [← hQ]
              exact W.iret (v := iI 1) hx hb hr (fun t ht hW => ⟨⟨iI 1, (), rfl, ⟨1, rfl, by omega⟩, trivial⟩, hS.F ht⟩) hS.2.2 dX12_promise_64
            · refine lv_iconst (v := iI 0) hx hb dX12_promise_59 rfl ?_
              refine lv_goto (tgt := 64) hx hb dX12_promise_60 (by decide) ?_
              rw [← hQ]
              exact W.iret (v := iI 0) hx hb hr (fun t ht hW => ⟨⟨iI 0, (), rfl, ⟨0, rfl, by omega⟩, trivial⟩, hS.F ht⟩) hS.2.2 dX12_promise_64
          · refine lv_iconst (v := iI 2) hx hb dX12_promise_49 rfl ?_
            rw [← hQ]
            exact W.iret (v := iI 2) hx hb hr (fun t ht hW => ⟨⟨iI 2, (), rfl, ⟨2, rfl, by omega⟩, trivial⟩, hS.F ht⟩) hS.2.2 dX12_promise_50
      · refine lv_iconst (v := iI 3) hx hb dX12_promise_31 rfl ?_
        rw [← hQ]
        exact W.iret (v := iI 3) hx hb hr (fun t ht hW => ⟨⟨iI 3, (), rfl, ⟨3, rfl, by omega⟩, trivial⟩, hS.F ht⟩) hS.2.2 dX12_promise_32
    · refine lv_iconst (v := iI (-1)) hx hb dX12_promise_19 rfl ?_
      rw [← hQ]
      exact W.iret (v := iI (-1)) hx hb hr (fun t ht hW => ⟨⟨iI (-1), (), rfl, ⟨(-1), rfl, by omega⟩, trivial⟩, hS.F ht⟩) hS.2.2 dX12_promise_20
