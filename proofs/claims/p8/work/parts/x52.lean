set_option maxHeartbeats 2000000 in
set_option maxRecDepth 100000 in
theorem sX12_promise (l : Launch) (dC : Nat → ClassId) (dI : Nat → Nat → Nat) (sz : Nat) (L : List Nat) (cid : Nat → ClassId) (K : Int → Nat) (N : Int → Int) (tW : Nat) (sK sV : Nat → Nat) (v : Int → Int → Int) (p0 : Int) (p1 : Int) (hI : xI L K N v) (q0 : ok L K p0 12) (q1 : rg p1) : Met l yX12_promise (jk yX12_promise cX12_promise 4 (some .int)) ({ frames := 4, cells := 0, slots := 0, locals := 86 }) (va_Pc [.ref p0.toNat, .int (iI p1)] (xP (dC, dI) (xG L cid K N v) (xT cid) tW sK sV sz)) (va_Qi (fun (r : Int32) (_ : Unit) => ∃ z : Int, r = iI z ∧ (rg z)) (fun _ _ => True) (va_A [] sz)) 0 0 (va_A [] sz) := by
  refine Met.ofW (cc := cX12_promise) (maxL := 4) (ret := (some .int)) (by decide) rfl ?_
  intro p e s m args below meth c s₁ B hml hv
  obtain ⟨rfl, ⟨hsz, hP, hK, hD0⟩, hX⟩ := hv
  have hx := B.exec
  have hb := B.bytes
  have hr := B.returns
  have hts := atoms_spec (ws := (jk yX12_promise cX12_promise 4 (some .int))) B.pre
  have hj : ∀ w ∈ jw, w.before ([.ref p0.toNat, .int (iI p1)] : List Value).toArray s = true := fun w h => hts w (jm h)
  have hown : s.vm.findClass RX12 = some m.cls := findClass_of_methodNamed B.named
  subst hsz
  have hDw := hD0.self (sz := s.heap.size)
  have hAA : ∀ q : Nat, s.heap.size ≤ q → va_A (xG L cid K N v) s.heap.size q := fun q h => Or.inr h
  have hAw : ∀ q, va_A [] s.heap.size q → va_A (xG L cid K N v) s.heap.size q := ja_nil va_S.rf hAA
  generalize hAe : (va_A [] s.heap.size) = A at hAw ⊢
  have hA : ∀ q : Nat, s.heap.size ≤ q → A q := fun q h => by rw [← hAe]; exact Or.inr h
  have hS : va_S A s.heap s.heap [] := va_S.rf
  have hXa := hX.nar hAw
  have hP : va_P (dC, dI) vwCl (xG L cid K N v) s.heap := hP
  have hl := lv_entry ([.ref p0.toNat, .int (iI p1)]) (n := 4) (Nat.le_of_ble_eq_true rfl)
  rw [lg_entry_eq]
  generalize (lg_sl ([.ref p0.toNat, .int (iI p1)]) ++ List.replicate (4 - (lg_sl ([.ref p0.toNat, .int (iI p1)])).length) Slot.unset).toArray = ls at hl ⊢
  have hl : lv_has ls 4 [(0, .ref p0.toNat), (1, .int (iI p1))] := hl
  generalize hQ : MQ below (va_Qi (fun (r : Int32) (_ : Unit) => ∃ z : Int, r = iI z ∧ (rg z)) (fun _ _ => True) A) ([.ref p0.toNat, .int (iI p1)] : List Value).toArray s 0 0 A = Q
  suffices ST : ∀ (H : Heap) (locs : List Loc), va_P (dC, dI) vwCl (xG L cid K N v) H → va_S A s.heap H locs → W p l e ({ frames := 4, cells := 0, slots := 0, locals := 86 }) s m ([.ref p0.toNat, .int (iI p1)] : List Value).toArray below meth c H locs 0 0 Q (F0 m 0 ls []) from ST _ _ hP hS
  clear hP hS
  intro H locs hP hS
  refine lv_aload_n hx hb dX12_promise_0 rfl (lv_at hl 0 rfl) ?_
  refine lv_iload_n hx hb dX12_promise_1 rfl (lv_at hl 1 rfl) ?_
  refine lv_iconst (v := iI 1) hx hb dX12_promise_2 rfl ?_
  refine jc_q (va_runV (As := [.int (iI p1), .int (iI 1)]) (rest := []) ⟨hx, hb, hml, hown, hts⟩ (sX12_entryOfKind l dC dI _ L cid K N tW sK sV v p0 p1 1 hI q0 (by omega) (by omega)) (cwV 2 hts (jgoodV m_1027 m_1028 m_1029 m_873 m_1030) rfl rfl rfl (by decide +kernel) ⟨(Nat.le_of_ble_eq_true rfl), (Nat.le_of_ble_eq_true rfl)⟩) ⟨xP_blind, xrecv hK hP q0 rfl rfl, fun U hU hW => ⟨rfl, xP_of hU hW hP hK hDw hX hS hAw hAA⟩⟩ rfl rfl hl.1 rfl (lv_room (Nat.le_of_ble_eq_true rfl)) dX12_promise_3 ⟨(Nat.le_of_ble_eq_true rfl), (Nat.le_of_ble_eq_true rfl)⟩) hP hS hA (fun r_1 H locs w_2 hP hS => ?_)
  obtain ⟨z_3, rfl, h_4⟩ := w_2
  refine jt_q (rv z_3) rfl ?_
  refine xq_astore_n (i := 2) (lv' := [(2, rv z_3), (0, .ref p0.toNat), (1, .int (iI p1))]) hx hb dX12_promise_6 rfl hl (by decide) rfl (fun ls hl => ?_)
  refine xq_aload_n hx hb dX12_promise_7 rfl (lv_at hl 0 rfl) ?_
  refine xq_ifnull (tgt := 19) hx hb dX12_promise_8 (by decide) (fun h_5 => ?_) (fun h_5 => ?_)
  · refine lv_iconst (v := iI (-1)) hx hb dX12_promise_19 rfl ?_
    rw [← hQ]
    exact W.iret (v := iI (-1)) hx hb hr (fun t ht hW => ⟨⟨iI (-1), (), rfl, ⟨(-1), rfl, by omega⟩, trivial⟩, hS.F ht⟩) hS.2.2 dX12_promise_20
  · have h_6 : ok L K z_3 0 := h_4.resolve_left (by omega)
    refine lv_aload_n hx hb dX12_promise_11 rfl (lv_at hl 1 rfl) ?_
    refine xq_aload_n hx hb dX12_promise_12 rfl (lv_at hl 0 rfl) ?_
    refine jt_q (.ref z_3.toNat) (rv_ref (h_6).1) ?_
    refine jc_i (va_runV (As := [.ref z_3.toNat]) (rest := []) ⟨hx, hb, hml, hown, hts⟩ (sX12_isAway l dC dI _ L cid K N tW sK sV v p0 z_3 hI q0 h_6) (cwV 1 hts (jgoodV m_1158 m_1159 m_1160 m_873 m_1161) rfl rfl rfl (by decide +kernel) ⟨(Nat.le_of_ble_eq_true rfl), (Nat.le_of_ble_eq_true rfl)⟩) ⟨xP_blind, xrecv hK hP q0 rfl rfl, fun U hU hW => ⟨rfl, xP_of hU hW hP hK hDw hX hS hAw hAA⟩⟩ rfl rfl hl.1 rfl (lv_room (Nat.le_of_ble_eq_true rfl)) dX12_promise_13 ⟨(Nat.le_of_ble_eq_true rfl), (Nat.le_of_ble_eq_true rfl)⟩) hP hS hA (fun r_7 H locs w_8 hP hS => ?_)
    obtain ⟨z_9, rfl, h_10⟩ := w_8
    refine xr_if_eq (tgt := 21) hx hb dX12_promise_16 (by decide) (by omega) (fun h_11 => ?_) (fun h_11 => ?_)
    · refine lv_aload_n hx hb dX12_promise_21 rfl (lv_at hl 1 rfl) ?_
      refine xq_aload_n hx hb dX12_promise_22 rfl (lv_at hl 0 rfl) ?_
      refine jt_q (.ref z_3.toNat) (rv_ref (h_6).1) ?_
      refine jc_q (va_runV (As := [.ref z_3.toNat]) (rest := []) ⟨hx, hb, hml, hown, hts⟩ (sX12_endOf l dC dI _ L cid K N tW sK sV v p0 z_3 hI q0 h_6) (cwV 1 hts (jgoodV m_1162 m_1163 m_1164 m_873 m_1165) rfl rfl rfl (by decide +kernel) ⟨(Nat.le_of_ble_eq_true rfl), (Nat.le_of_ble_eq_true rfl)⟩) ⟨xP_blind, xrecv hK hP q0 rfl rfl, fun U hU hW => ⟨rfl, xP_of hU hW hP hK hDw hX hS hAw hAA⟩⟩ rfl rfl hl.1 rfl (lv_room (Nat.le_of_ble_eq_true rfl)) dX12_promise_23 ⟨(Nat.le_of_ble_eq_true rfl), (Nat.le_of_ble_eq_true rfl)⟩) hP hS hA (fun r_12 H locs w_13 hP hS => ?_)
      obtain ⟨z_14, rfl, h_15⟩ := w_13
      refine jt_q (rv z_14) rfl ?_
      refine xq_astore_n (i := 3) (lv' := [(3, rv z_14), (2, rv z_3), (0, .ref p0.toNat), (1, .int (iI p1))]) hx hb dX12_promise_26 rfl hl (by decide) (by simp [rv_cat]) (fun ls hl => ?_)
      refine xq_aload_n hx hb dX12_promise_27 rfl (lv_at hl 0 rfl) ?_
      refine xq_ifnonnull (tgt := 33) hx hb dX12_promise_28 (by decide) (fun h_16 => ?_) (fun h_16 => ?_)
      · have h_17 : ok L K z_14 0 := h_15.resolve_left (by omega)
        refine lv_aload_n hx hb dX12_promise_33 rfl (lv_at hl 2 rfl) ?_
        refine xq_aload_n hx hb dX12_promise_34 rfl (lv_at hl 0 rfl) ?_
        refine jt_q (.ref z_14.toNat) (rv_ref (h_17).1) ?_
        refine jc_i (va_runV (As := [.ref z_14.toNat]) (rest := []) ⟨hx, hb, hml, hown, hts⟩ (sX12_isAway l dC dI _ L cid K N tW sK sV v p0 z_14 hI q0 h_17) (cwV 1 hts (jgoodV m_1158 m_1159 m_1160 m_873 m_1161) rfl rfl rfl (by decide +kernel) ⟨(Nat.le_of_ble_eq_true rfl), (Nat.le_of_ble_eq_true rfl)⟩) ⟨xP_blind, xrecv hK hP q0 rfl rfl, fun U hU hW => ⟨rfl, xP_of hU hW hP hK hDw hX hS hAw hAA⟩⟩ rfl rfl hl.1 rfl (lv_room (Nat.le_of_ble_eq_true rfl)) dX12_promise_35 ⟨(Nat.le_of_ble_eq_true rfl), (Nat.le_of_ble_eq_true rfl)⟩) hP hS hA (fun r_18 H locs w_19 hP hS => ?_)
        obtain ⟨z_20, rfl, h_21⟩ := w_19
        refine xr_if_ne (tgt := 49) hx hb dX12_promise_38 (by decide) (by omega) (fun h_22 => ?_) (fun h_22 => ?_)
        · refine lv_iconst (v := iI 2) hx hb dX12_promise_49 rfl ?_
          rw [← hQ]
          exact W.iret (v := iI 2) hx hb hr (fun t ht hW => ⟨⟨iI 2, (), rfl, ⟨2, rfl, by omega⟩, trivial⟩, hS.F ht⟩) hS.2.2 dX12_promise_50
        · refine lv_aload_n hx hb dX12_promise_41 rfl (lv_at hl 2 rfl) ?_
          refine xq_aload_n hx hb dX12_promise_42 rfl (lv_at hl 1 rfl) ?_
          refine jt_q (.ref z_3.toNat) (rv_ref (h_6).1) ?_
          refine jc_i (va_runV (As := [.ref z_3.toNat]) (rest := []) ⟨hx, hb, hml, hown, hts⟩ (sX12_isBrokenOnTheWay l dC dI _ L cid K N tW sK sV v p0 z_3 hI q0 h_6) (cwV 1 hts (jgoodV m_1166 m_1167 m_1168 m_873 m_1169) rfl rfl rfl (by decide +kernel) ⟨(Nat.le_of_ble_eq_true rfl), (Nat.le_of_ble_eq_true rfl)⟩) ⟨xP_blind, xrecv hK hP q0 rfl rfl, fun U hU hW => ⟨rfl, xP_of hU hW hP hK hDw hX hS hAw hAA⟩⟩ rfl rfl hl.1 rfl (lv_room (Nat.le_of_ble_eq_true rfl)) dX12_promise_43 ⟨(Nat.le_of_ble_eq_true rfl), (Nat.le_of_ble_eq_true rfl)⟩) hP hS hA (fun r_23 H locs w_24 hP hS => ?_)
          obtain ⟨z_25, rfl, h_26⟩ := w_24
          refine xr_if_eq (tgt := 51) hx hb dX12_promise_46 (by decide) (by omega) (fun h_27 => ?_) (fun h_27 => ?_)
          · refine xq_aload_n hx hb dX12_promise_51 rfl (lv_at hl 0 rfl) ?_
            refine jt_q (.ref z_14.toNat) (rv_ref (h_17).1) ?_
            have h_28 : (-2147483648) ≤ v z_14 12 ∧ v z_14 12 ≤ 2147483647 := xf_0_12 hI h_17
            refine gx_RX12_247 (y := v z_14 12) hx hb hj hown hK hP h_17 rfl dX12_promise_52 ?_
            refine lv_iconst (v := iI (-1)) hx hb dX12_promise_55 rfl ?_
            refine xr_icmp_eq (tgt := 63) hx hb dX12_promise_56 (by decide) (by omega) (by omega) (fun h_29 => ?_) (fun h_29 => ?_)
            · refine lv_iconst (v := iI 1) hx hb dX12_promise_63 rfl ?_
              rw [← hQ]
              exact W.iret (v := iI 1) hx hb hr (fun t ht hW => ⟨⟨iI 1, (), rfl, ⟨1, rfl, by omega⟩, trivial⟩, hS.F ht⟩) hS.2.2 dX12_promise_64
            · refine lv_iconst (v := iI 0) hx hb dX12_promise_59 rfl ?_
              refine lv_goto (tgt := 64) hx hb dX12_promise_60 (by decide) ?_
              rw [← hQ]
              exact W.iret (v := iI 0) hx hb hr (fun t ht hW => ⟨⟨iI 0, (), rfl, ⟨0, rfl, by omega⟩, trivial⟩, hS.F ht⟩) hS.2.2 dX12_promise_64
          · refine lv_iconst (v := iI 2) hx hb dX12_promise_49 rfl ?_
            rw [← hQ]
            exact W.iret (v := iI 2) hx hb hr (fun t ht hW => ⟨⟨iI 2, (), rfl, ⟨2, rfl, by omega⟩, trivial⟩, hS.F ht⟩) hS.2.2 dX12_promise_50
      · refine lv_iconst (v := iI 3) hx hb dX12_promise_31 rfl ?_
        rw [← hQ]
        exact W.iret (v := iI 3) hx hb hr (fun t ht hW => ⟨⟨iI 3, (), rfl, ⟨3, rfl, by omega⟩, trivial⟩, hS.F ht⟩) hS.2.2 dX12_promise_32
    · refine lv_iconst (v := iI (-1)) hx hb dX12_promise_19 rfl ?_
      rw [← hQ]
      exact W.iret (v := iI (-1)) hx hb hr (fun t ht hW => ⟨⟨iI (-1), (), rfl, ⟨(-1), rfl, by omega⟩, trivial⟩, hS.F ht⟩) hS.2.2 dX12_promise_20
set_option maxHeartbeats 2000000 in
set_option maxRecDepth 100000 in
theorem sX12_ends (l : Launch) (dC : Nat → ClassId) (dI : Nat → Nat → Nat) (sz : Nat) (L : List Nat) (cid : Nat → ClassId) (K : Int → Nat) (N : Int → Int) (tW : Nat) (sK sV : Nat → Nat) (v : Int → Int → Int) (p0 : Int) (p1 : Int) (hI : xI L K N v) (q0 : ok L K p0 12) (q1 : rg p1) : Met l yX12_ends (jk yX12_ends cX12_ends 4 (some .int)) ({ frames := 2, cells := 0, slots := 0, locals := 44 }) (va_Pc [.ref p0.toNat, .int (iI p1)] (xP (dC, dI) (xG L cid K N v) (xT cid) tW sK sV sz)) (va_Qi (fun (r : Int32) (_ : Unit) => ∃ z : Int, r = iI z ∧ (rg z)) (fun _ _ => True) (va_A [] sz)) 0 0 (va_A [] sz) := by
  refine Met.ofW (cc := cX12_ends) (maxL := 4) (ret := (some .int)) (by decide) rfl ?_
  intro p e s m args below meth c s₁ B hml hv
  obtain ⟨rfl, ⟨hsz, hP, hK, hD0⟩, hX⟩ := hv
  have hx := B.exec
  have hb := B.bytes
  have hr := B.returns
  have hts := atoms_spec (ws := (jk yX12_ends cX12_ends 4 (some .int))) B.pre
  have hj : ∀ w ∈ jw, w.before ([.ref p0.toNat, .int (iI p1)] : List Value).toArray s = true := fun w h => hts w (jm h)
  have hown : s.vm.findClass RX12 = some m.cls := findClass_of_methodNamed B.named
  subst hsz
  have hDw := hD0.self (sz := s.heap.size)
  have hAA : ∀ q : Nat, s.heap.size ≤ q → va_A (xG L cid K N v) s.heap.size q := fun q h => Or.inr h
  have hAw : ∀ q, va_A [] s.heap.size q → va_A (xG L cid K N v) s.heap.size q := ja_nil va_S.rf hAA
  generalize hAe : (va_A [] s.heap.size) = A at hAw ⊢
  have hA : ∀ q : Nat, s.heap.size ≤ q → A q := fun q h => by rw [← hAe]; exact Or.inr h
  have hS : va_S A s.heap s.heap [] := va_S.rf
  have hXa := hX.nar hAw
  have hP : va_P (dC, dI) vwCl (xG L cid K N v) s.heap := hP
  have hl := lv_entry ([.ref p0.toNat, .int (iI p1)]) (n := 4) (Nat.le_of_ble_eq_true rfl)
  rw [lg_entry_eq]
  generalize (lg_sl ([.ref p0.toNat, .int (iI p1)]) ++ List.replicate (4 - (lg_sl ([.ref p0.toNat, .int (iI p1)])).length) Slot.unset).toArray = ls at hl ⊢
  have hl : lv_has ls 4 [(0, .ref p0.toNat), (1, .int (iI p1))] := hl
  generalize hQ : MQ below (va_Qi (fun (r : Int32) (_ : Unit) => ∃ z : Int, r = iI z ∧ (rg z)) (fun _ _ => True) A) ([.ref p0.toNat, .int (iI p1)] : List Value).toArray s 0 0 A = Q
  suffices ST : ∀ (H : Heap) (locs : List Loc), va_P (dC, dI) vwCl (xG L cid K N v) H → va_S A s.heap H locs → W p l e ({ frames := 2, cells := 0, slots := 0, locals := 44 }) s m ([.ref p0.toNat, .int (iI p1)] : List Value).toArray below meth c H locs 0 0 Q (F0 m 0 ls []) from ST _ _ hP hS
  clear hP hS
  intro H locs hP hS
  refine lv_aload_n hx hb dX12_ends_0 rfl (lv_at hl 0 rfl) ?_
  refine lv_iload_n hx hb dX12_ends_1 rfl (lv_at hl 1 rfl) ?_
  refine lv_iconst (v := iI 1) hx hb dX12_ends_2 rfl ?_
  refine jc_q (va_runV (As := [.int (iI p1), .int (iI 1)]) (rest := []) ⟨hx, hb, hml, hown, hts⟩ (sX12_entryOfKind l dC dI _ L cid K N tW sK sV v p0 p1 1 hI q0 (by omega) (by omega)) (cwV 2 hts (jgoodV m_1027 m_1028 m_1029 m_873 m_1030) rfl rfl rfl (by decide +kernel) ⟨(Nat.le_of_ble_eq_true rfl), (Nat.le_of_ble_eq_true rfl)⟩) ⟨xP_blind, xrecv hK hP q0 rfl rfl, fun U hU hW => ⟨rfl, xP_of hU hW hP hK hDw hX hS hAw hAA⟩⟩ rfl rfl hl.1 rfl (lv_room (Nat.le_of_ble_eq_true rfl)) dX12_ends_3 ⟨(Nat.le_of_ble_eq_true rfl), (Nat.le_of_ble_eq_true rfl)⟩) hP hS hA (fun r_1 H locs w_2 hP hS => ?_)
  obtain ⟨z_3, rfl, h_4⟩ := w_2
  refine jt_q (rv z_3) rfl ?_
  refine xq_astore_n (i := 2) (lv' := [(2, rv z_3), (0, .ref p0.toNat), (1, .int (iI p1))]) hx hb dX12_ends_6 rfl hl (by decide) rfl (fun ls hl => ?_)
  refine xq_aload_n hx hb dX12_ends_7 rfl (lv_at hl 0 rfl) ?_
  have J20 : ∀ (s0_20 : Int) (H : Heap) (locs : List Loc) (ls : Array Slot), (s0_20 < 0 ∨ ok L K s0_20 0) → va_P (dC, dI) vwCl (xG L cid K N v) H → va_S A s.heap H locs → lv_has ls 4 [(2, rv z_3), (0, .ref p0.toNat), (1, .int (iI p1))] → W p l e ({ frames := 2, cells := 0, slots := 0, locals := 44 }) s m ([.ref p0.toNat, .int (iI p1)] : List Value).toArray below meth c H locs 0 0 Q (F0 m 20 ls [rv s0_20]) := by
    intro s0_20 H locs ls h_5 hP hS hl
    refine xq_astore_n (i := 3) (lv' := [(3, rv s0_20), (2, rv z_3), (0, .ref p0.toNat), (1, .int (iI p1))]) hx hb dX12_ends_20 rfl hl (by decide) (by simp [rv_cat]) (fun ls hl => ?_)
    refine xq_aload_n hx hb dX12_ends_21 rfl (lv_at hl 0 rfl) ?_
    refine xq_ifnonnull (tgt := 29) hx hb dX12_ends_22 (by decide) (fun h_6 => ?_) (fun h_6 => ?_)
    · have h_7 : ok L K s0_20 0 := h_5.resolve_left (by omega)
      refine xq_aload_n hx hb dX12_ends_29 rfl (lv_at hl 0 rfl) ?_
      refine jt_q (.ref s0_20.toNat) (rv_ref (h_7).1) ?_
      have h_8 : (-2147483648) ≤ v s0_20 0 ∧ v s0_20 0 ≤ 2147483647 := xf_0_0 hI h_7
      refine gx_RX12_186 (y := v s0_20 0) hx hb hj hown hK hP h_7 rfl dX12_ends_30 ?_
      rw [← hQ]
      exact W.iret (v := iI (v s0_20 0)) hx hb hr (fun t ht hW => ⟨⟨iI (v s0_20 0), (), rfl, ⟨v s0_20 0, rfl, by omega⟩, trivial⟩, hS.F ht⟩) hS.2.2 dX12_ends_33
    · refine lv_iconst (v := iI (-1)) hx hb dX12_ends_25 rfl ?_
      refine lv_goto (tgt := 33) hx hb dX12_ends_26 (by decide) ?_
      rw [← hQ]
      exact W.iret (v := iI (-1)) hx hb hr (fun t ht hW => ⟨⟨iI (-1), (), rfl, ⟨(-1), rfl, by omega⟩, trivial⟩, hS.F ht⟩) hS.2.2 dX12_ends_33
  refine xq_ifnonnull (tgt := 15) hx hb dX12_ends_8 (by decide) (fun h_9 => ?_) (fun h_9 => ?_)
  · have h_10 : ok L K z_3 0 := h_4.resolve_left (by omega)
    refine lv_aload_n hx hb dX12_ends_15 rfl (lv_at hl 1 rfl) ?_
    refine xq_aload_n hx hb dX12_ends_16 rfl (lv_at hl 0 rfl) ?_
    refine jt_q (.ref z_3.toNat) (rv_ref (h_10).1) ?_
    refine jc_q (va_runV (As := [.ref z_3.toNat]) (rest := []) ⟨hx, hb, hml, hown, hts⟩ (sX12_endOf l dC dI _ L cid K N tW sK sV v p0 z_3 hI q0 h_10) (cwV 1 hts (jgoodV m_1162 m_1163 m_1164 m_873 m_1165) rfl rfl rfl (by decide +kernel) ⟨(Nat.le_of_ble_eq_true rfl), (Nat.le_of_ble_eq_true rfl)⟩) ⟨xP_blind, xrecv hK hP q0 rfl rfl, fun U hU hW => ⟨rfl, xP_of hU hW hP hK hDw hX hS hAw hAA⟩⟩ rfl rfl hl.1 rfl (lv_room (Nat.le_of_ble_eq_true rfl)) dX12_ends_17 ⟨(Nat.le_of_ble_eq_true rfl), (Nat.le_of_ble_eq_true rfl)⟩) hP hS hA (fun r_11 H locs w_12 hP hS => ?_)
    obtain ⟨z_13, rfl, h_14⟩ := w_12
    refine jt_q (rv z_13) rfl ?_
    exact J20 z_13 H locs ls h_14 hP hS hl
  · refine lv_null hx hb dX12_ends_11 ?_
    refine jt_q (rv (-1)) rv_nul ?_
    refine lv_goto (tgt := 20) hx hb dX12_ends_12 (by decide) ?_
    exact J20 (-1) H locs ls (Or.inl (by decide)) hP hS hl
set_option maxHeartbeats 2000000 in
set_option maxRecDepth 100000 in
theorem sX12_promised (l : Launch) (dC : Nat → ClassId) (dI : Nat → Nat → Nat) (sz : Nat) (L : List Nat) (cid : Nat → ClassId) (K : Int → Nat) (N : Int → Int) (tW : Nat) (sK sV : Nat → Nat) (v : Int → Int → Int) (p0 : Int) (p1 : Int) (hI : xI L K N v) (q0 : ok L K p0 12) (q1 : rg p1) : Met l yX12_promised (jk yX12_promised cX12_promised 6 (some .int)) ({ frames := 2, cells := 0, slots := 0, locals := 44 }) (va_Pc [.ref p0.toNat, .int (iI p1)] (xP (dC, dI) (xG L cid K N v) (xT cid) tW sK sV sz)) (va_Qi (fun (r : Int32) (_ : Unit) => ∃ z : Int, r = iI z ∧ (rg z)) (fun _ _ => True) (va_A [] sz)) 0 0 (va_A [] sz) := by
  refine Met.ofW (cc := cX12_promised) (maxL := 6) (ret := (some .int)) (by decide) rfl ?_
  intro p e s m args below meth c s₁ B hml hv
  obtain ⟨rfl, ⟨hsz, hP, hK, hD0⟩, hX⟩ := hv
  have hx := B.exec
  have hb := B.bytes
  have hr := B.returns
  have hts := atoms_spec (ws := (jk yX12_promised cX12_promised 6 (some .int))) B.pre
  have hj : ∀ w ∈ jw, w.before ([.ref p0.toNat, .int (iI p1)] : List Value).toArray s = true := fun w h => hts w (jm h)
  have hown : s.vm.findClass RX12 = some m.cls := findClass_of_methodNamed B.named
  subst hsz
  have hDw := hD0.self (sz := s.heap.size)
  have hAA : ∀ q : Nat, s.heap.size ≤ q → va_A (xG L cid K N v) s.heap.size q := fun q h => Or.inr h
  have hAw : ∀ q, va_A [] s.heap.size q → va_A (xG L cid K N v) s.heap.size q := ja_nil va_S.rf hAA
  generalize hAe : (va_A [] s.heap.size) = A at hAw ⊢
  have hA : ∀ q : Nat, s.heap.size ≤ q → A q := fun q h => by rw [← hAe]; exact Or.inr h
  have hS : va_S A s.heap s.heap [] := va_S.rf
  have hXa := hX.nar hAw
  have hP : va_P (dC, dI) vwCl (xG L cid K N v) s.heap := hP
  have hl := lv_entry ([.ref p0.toNat, .int (iI p1)]) (n := 6) (Nat.le_of_ble_eq_true rfl)
  rw [lg_entry_eq]
  generalize (lg_sl ([.ref p0.toNat, .int (iI p1)]) ++ List.replicate (6 - (lg_sl ([.ref p0.toNat, .int (iI p1)])).length) Slot.unset).toArray = ls at hl ⊢
  have hl : lv_has ls 6 [(0, .ref p0.toNat), (1, .int (iI p1))] := hl
  generalize hQ : MQ below (va_Qi (fun (r : Int32) (_ : Unit) => ∃ z : Int, r = iI z ∧ (rg z)) (fun _ _ => True) A) ([.ref p0.toNat, .int (iI p1)] : List Value).toArray s 0 0 A = Q
  suffices ST : ∀ (H : Heap) (locs : List Loc), va_P (dC, dI) vwCl (xG L cid K N v) H → va_S A s.heap H locs → W p l e ({ frames := 2, cells := 0, slots := 0, locals := 44 }) s m ([.ref p0.toNat, .int (iI p1)] : List Value).toArray below meth c H locs 0 0 Q (F0 m 0 ls []) from ST _ _ hP hS
  clear hP hS
  intro H locs hP hS
  refine lv_aload_n hx hb dX12_promised_0 rfl (lv_at hl 0 rfl) ?_
  refine lv_iload_n hx hb dX12_promised_1 rfl (lv_at hl 1 rfl) ?_
  refine jc_q (va_runV (As := [.int (iI p1)]) (rest := []) ⟨hx, hb, hml, hown, hts⟩ (sX12_handAt l dC dI _ L cid K N tW sK sV v p0 p1 hI q0 (by omega)) (cwV 1 hts (jgoodV m_1056 m_1057 m_1058 m_873 m_1059) rfl rfl rfl (by decide +kernel) ⟨(Nat.le_of_ble_eq_true rfl), (Nat.le_of_ble_eq_true rfl)⟩) ⟨xP_blind, xrecv hK hP q0 rfl rfl, fun U hU hW => ⟨rfl, xP_of hU hW hP hK hDw hX hS hAw hAA⟩⟩ rfl rfl hl.1 rfl (lv_room (Nat.le_of_ble_eq_true rfl)) dX12_promised_2 ⟨(Nat.le_of_ble_eq_true rfl), (Nat.le_of_ble_eq_true rfl)⟩) hP hS hA (fun r_1 H locs w_2 hP hS => ?_)
  obtain ⟨z_3, rfl, h_4⟩ := w_2
  refine jt_q (rv z_3) rfl ?_
  refine xq_ifnonnull (tgt := 10) hx hb dX12_promised_5 (by decide) (fun h_5 => ?_) (fun h_5 => ?_)
  · have h_6 : ok L K z_3 2 := h_4.resolve_left (by omega)
    refine lv_iconst (v := iI 0) hx hb dX12_promised_10 rfl ?_
    refine lv_istore_n (i := 2) (lv' := [(2, .int (iI 0)), (0, .ref p0.toNat), (1, .int (iI p1))]) hx hb dX12_promised_11 rfl hl (by decide) rfl (fun ls hl => ?_)
    refine lv_iconst (v := iI 0) hx hb dX12_promised_12 rfl ?_
    refine lv_istore_n (i := 3) (lv' := [(3, .int (iI 0)), (2, .int (iI 0)), (0, .ref p0.toNat), (1, .int (iI p1))]) hx hb dX12_promised_13 rfl hl (by decide) rfl (fun ls hl => ?_)
    have L14 : ∀ (n14 : Nat) (a3_14 a2_14 : Int) (H : Heap) (locs : List Loc) (ls : Array Slot), (0 ≤ a3_14 ∧ a3_14 ≤ 2147483647) → ((-2147483648) ≤ a2_14 ∧ a2_14 ≤ 2147483647) → (0 < (n14 : Int) ∧ (v p0 7) - a3_14 < (n14 : Int)) → va_P (dC, dI) vwCl (xG L cid K N v) H → va_S A s.heap H locs → lv_has ls 6 [(3, .int (iI a3_14)), (2, .int (iI a2_14)), (0, .ref p0.toNat), (1, .int (iI p1))] → W p l e ({ frames := 2, cells := 0, slots := 0, locals := 44 }) s m ([.ref p0.toNat, .int (iI p1)] : List Value).toArray below meth c H locs 0 0 Q (F0 m 14 ls []) := by
      intro n14
      induction n14 with
      | zero =>
        intro a3_14 a2_14 H locs ls h_7 h_8 hm14 hP hS hl
        exfalso; omega
      | succ n14 ih14 =>
        intro a3_14 a2_14 H locs ls h_9 h_10 hm14 hP hS hl
        refine lv_iload_n hx hb dX12_promised_14 rfl (lv_at hl 0 rfl) ?_
        refine lv_aload_n hx hb dX12_promised_15 rfl (lv_at hl 2 rfl) ?_
        have h_11 : 0 ≤ v p0 7 ∧ v p0 7 ≤ 60 := xf_12_7 hI q0
        refine gx_RX12_203 (y := v p0 7) hx hb hj hown hK hP q0 rfl dX12_promised_16 ?_
        refine xr_icmp_ge (tgt := 87) hx hb dX12_promised_19 (by decide) (by omega) (by omega) (fun h_12 => ?_) (fun h_12 => ?_)
        · refine lv_iload_n hx hb dX12_promised_87 rfl (lv_at hl 1 rfl) ?_
          rw [← hQ]
          exact W.iret (v := iI a2_14) hx hb hr (fun t ht hW => ⟨⟨iI a2_14, (), rfl, ⟨a2_14, rfl, by omega⟩, trivial⟩, hS.F ht⟩) hS.2.2 dX12_promised_88
        · refine lv_aload_n hx hb dX12_promised_22 rfl (lv_at hl 2 rfl) ?_
          refine lv_iload_n hx hb dX12_promised_23 rfl (lv_at hl 0 rfl) ?_
          refine lv_iconst (v := iI 1) hx hb dX12_promised_24 rfl ?_
          refine jc_q (va_runV (As := [.int (iI a3_14), .int (iI 1)]) (rest := []) ⟨hx, hb, hml, hown, hts⟩ (sX12_entryOfKind l dC dI _ L cid K N tW sK sV v p0 a3_14 1 hI q0 (by omega) (by omega)) (cwV 2 hts (jgoodV m_1027 m_1028 m_1029 m_873 m_1030) rfl rfl rfl (by decide +kernel) ⟨(Nat.le_of_ble_eq_true rfl), (Nat.le_of_ble_eq_true rfl)⟩) ⟨xP_blind, xrecv hK hP q0 rfl rfl, fun U hU hW => ⟨rfl, xP_of hU hW hP hK hDw hX hS hAw hAA⟩⟩ rfl rfl hl.1 rfl (lv_room (Nat.le_of_ble_eq_true rfl)) dX12_promised_25 ⟨(Nat.le_of_ble_eq_true rfl), (Nat.le_of_ble_eq_true rfl)⟩) hP hS hA (fun r_13 H locs w_14 hP hS => ?_)
          obtain ⟨z_15, rfl, h_16⟩ := w_14
          refine jt_q (rv z_15) rfl ?_
          refine xq_astore (i := 4) (lv' := [(4, rv z_15), (3, .int (iI a3_14)), (2, .int (iI a2_14)), (0, .ref p0.toNat), (1, .int (iI p1))]) hx hb dX12_promised_28 hl (by decide) rfl (fun ls hl => ?_)
          refine xq_aload hx hb dX12_promised_30 (lv_at hl 0 rfl) ?_
          have J81 : ∀ (a2_81 : Int) (H : Heap) (locs : List Loc) (ls : Array Slot), ((-2147483648) ≤ a2_81 ∧ a2_81 ≤ 2147483647) → va_P (dC, dI) vwCl (xG L cid K N v) H → va_S A s.heap H locs → lv_has ls 6 [(4, rv z_15), (3, .int (iI a3_14)), (2, .int (iI a2_81)), (0, .ref p0.toNat), (1, .int (iI p1))] → W p l e ({ frames := 2, cells := 0, slots := 0, locals := 44 }) s m ([.ref p0.toNat, .int (iI p1)] : List Value).toArray below meth c H locs 0 0 Q (F0 m 81 ls []) := by
            intro a2_81 H locs ls h_17 hP hS hl
            refine lv_iinc (v := iI (a3_14 + 1)) (lv' := [(3, .int (iI (a3_14 + 1))), (4, rv z_15), (2, .int (iI a2_81)), (0, .ref p0.toNat), (1, .int (iI p1))]) hx hb dX12_promised_81 hl (k := 1) rfl (iI_add _ _) (by decide) rfl (fun ls hl => ?_)
            refine lv_goto (tgt := 14) hx hb dX12_promised_84 (by decide) ?_
            exact ih14 (a3_14 + 1) a2_81 H locs ls (by omega) (by omega) (by omega) hP hS (lv_sub hl [0, 2, 3, 4] rfl)
          refine xq_ifnull (tgt := 81) hx hb dX12_promised_32 (by decide) (fun h_18 => ?_) (fun h_18 => ?_)
          · exact J81 a2_14 H locs ls (by omega) hP hS hl
          · have h_19 : ok L K z_15 0 := h_16.resolve_left (by omega)
            refine lv_aload_n hx hb dX12_promised_35 rfl (lv_at hl 3 rfl) ?_
            refine xq_aload hx hb dX12_promised_36 (lv_at hl 0 rfl) ?_
            refine jt_q (.ref z_15.toNat) (rv_ref (h_19).1) ?_
            refine jc_i (va_runV (As := [.ref z_15.toNat]) (rest := []) ⟨hx, hb, hml, hown, hts⟩ (sX12_isStruck l dC dI _ L cid K N tW sK sV v p0 z_15 hI q0 h_19) (cwV 1 hts (jgoodV m_1060 m_1061 m_1062 m_873 m_1063) rfl rfl rfl (by decide +kernel) ⟨(Nat.le_of_ble_eq_true rfl), (Nat.le_of_ble_eq_true rfl)⟩) ⟨xP_blind, xrecv hK hP q0 rfl rfl, fun U hU hW => ⟨rfl, xP_of hU hW hP hK hDw hX hS hAw hAA⟩⟩ rfl rfl hl.1 rfl (lv_room (Nat.le_of_ble_eq_true rfl)) dX12_promised_38 ⟨(Nat.le_of_ble_eq_true rfl), (Nat.le_of_ble_eq_true rfl)⟩) hP hS hA (fun r_20 H locs w_21 hP hS => ?_)
            obtain ⟨z_22, rfl, h_23⟩ := w_21
            refine xr_if_eq (tgt := 47) hx hb dX12_promised_41 (by decide) (by omega) (fun h_24 => ?_) (fun h_24 => ?_)
            · refine lv_aload_n hx hb dX12_promised_47 rfl (lv_at hl 3 rfl) ?_
              refine xq_aload hx hb dX12_promised_48 (lv_at hl 0 rfl) ?_
              refine jt_q (.ref z_15.toNat) (rv_ref (h_19).1) ?_
              refine jc_q (va_runV (As := [.ref z_15.toNat]) (rest := []) ⟨hx, hb, hml, hown, hts⟩ (sX12_endOf l dC dI _ L cid K N tW sK sV v p0 z_15 hI q0 h_19) (cwV 1 hts (jgoodV m_1162 m_1163 m_1164 m_873 m_1165) rfl rfl rfl (by decide +kernel) ⟨(Nat.le_of_ble_eq_true rfl), (Nat.le_of_ble_eq_true rfl)⟩) ⟨xP_blind, xrecv hK hP q0 rfl rfl, fun U hU hW => ⟨rfl, xP_of hU hW hP hK hDw hX hS hAw hAA⟩⟩ rfl rfl hl.1 rfl (lv_room (Nat.le_of_ble_eq_true rfl)) dX12_promised_50 ⟨(Nat.le_of_ble_eq_true rfl), (Nat.le_of_ble_eq_true rfl)⟩) hP hS hA (fun r_25 H locs w_26 hP hS => ?_)
              obtain ⟨z_27, rfl, h_28⟩ := w_26
              refine jt_q (rv z_27) rfl ?_
              refine xq_astore (i := 5) (lv' := [(5, rv z_27), (4, rv z_15), (3, .int (iI a3_14)), (2, .int (iI a2_14)), (0, .ref p0.toNat), (1, .int (iI p1))]) hx hb dX12_promised_53 hl (by decide) (by simp [rv_cat]) (fun ls hl => ?_)
              refine xq_aload hx hb dX12_promised_55 (lv_at hl 0 rfl) ?_
              refine xq_ifnull (tgt := 81) hx hb dX12_promised_57 (by decide) (fun h_29 => ?_) (fun h_29 => ?_)
              · exact J81 a2_14 H locs ls (by omega) hP hS (lv_sub hl [1, 2, 3, 4, 5] rfl)
              · have h_30 : ok L K z_27 0 := h_28.resolve_left (by omega)
                refine xq_aload hx hb dX12_promised_60 (lv_at hl 0 rfl) ?_
                refine jt_q (.ref z_27.toNat) (rv_ref (h_30).1) ?_
                have h_31 : (-2147483648) ≤ v z_27 14 ∧ v z_27 14 ≤ 2147483647 := xf_0_14 hI h_30
                refine gx_RX12_313 (y := v z_27 14) hx hb hj hown hK hP h_30 rfl dX12_promised_62 ?_
                refine lv_iload_n hx hb dX12_promised_65 rfl (lv_at hl 5 rfl) ?_
                refine xr_icmp_ne (tgt := 81) hx hb dX12_promised_66 (by decide) (by omega) (by omega) (fun h_32 => ?_) (fun h_32 => ?_)
                · exact J81 a2_14 H locs ls (by omega) hP hS (lv_sub hl [1, 2, 3, 4, 5] rfl)
                · refine lv_aload_n hx hb dX12_promised_69 rfl (lv_at hl 4 rfl) ?_
                  refine xq_aload hx hb dX12_promised_70 (lv_at hl 0 rfl) ?_
                  refine jt_q (.ref z_27.toNat) (rv_ref (h_30).1) ?_
                  refine jc_i (va_runV (As := [.ref z_27.toNat]) (rest := []) ⟨hx, hb, hml, hown, hts⟩ (sX12_hangs l dC dI _ L cid K N tW sK sV v p0 z_27 hI q0 h_30) (cwV 1 hts (jgoodV m_1113 m_1114 m_1115 m_873 m_1116) rfl rfl rfl (by decide +kernel) ⟨(Nat.le_of_ble_eq_true rfl), (Nat.le_of_ble_eq_true rfl)⟩) ⟨xP_blind, xrecv hK hP q0 rfl rfl, fun U hU hW => ⟨rfl, xP_of hU hW hP hK hDw hX hS hAw hAA⟩⟩ rfl rfl hl.1 rfl (lv_room (Nat.le_of_ble_eq_true rfl)) dX12_promised_72 ⟨(Nat.le_of_ble_eq_true rfl), (Nat.le_of_ble_eq_true rfl)⟩) hP hS hA (fun r_33 H locs w_34 hP hS => ?_)
                  obtain ⟨z_35, rfl, h_36⟩ := w_34
                  refine xr_if_eq (tgt := 81) hx hb dX12_promised_75 (by decide) (by omega) (fun h_37 => ?_) (fun h_37 => ?_)
                  · exact J81 a2_14 H locs ls (by omega) hP hS (lv_sub hl [1, 2, 3, 4, 5] rfl)
                  · refine lv_iinc (v := iI (a2_14 + 1)) (lv' := [(2, .int (iI (a2_14 + 1))), (5, rv z_27), (4, rv z_15), (3, .int (iI a3_14)), (0, .ref p0.toNat), (1, .int (iI p1))]) hx hb dX12_promised_78 hl (k := 3) rfl (iI_add _ _) (by decide) rfl (fun ls hl => ?_)
                    obtain ⟨z_38, h_39, h_40, e9⟩ := xr_keep (a2_14 + 1)
                    rw [e9] at hl
                    exact J81 z_38 H locs ls (by omega) hP hS (lv_sub hl [2, 3, 0, 4, 5] rfl)
            · refine lv_goto (tgt := 81) hx hb dX12_promised_44 (by decide) ?_
              exact J81 a2_14 H locs ls (by omega) hP hS hl
    exact L14 ((((v p0 7) - 0 : Int)).toNat + 1) 0 0 H locs ls (by omega) (by omega) (by omega) hP hS hl
  · refine lv_iconst (v := iI (-1)) hx hb dX12_promised_8 rfl ?_
    rw [← hQ]
    exact W.iret (v := iI (-1)) hx hb hr (fun t ht hW => ⟨⟨iI (-1), (), rfl, ⟨(-1), rfl, by omega⟩, trivial⟩, hS.F ht⟩) hS.2.2 dX12_promised_9
set_option maxHeartbeats 2000000 in
set_option maxRecDepth 100000 in
theorem sX12_subscribe (l : Launch) (dC : Nat → ClassId) (dI : Nat → Nat → Nat) (sz : Nat) (L : List Nat) (cid : Nat → ClassId) (K : Int → Nat) (N : Int → Int) (tW : Nat) (sK sV : Nat → Nat) (v : Int → Int → Int) (p0 : Int) (p1 : Int) (p2 : Int) (p3 : Int) (hI : xI L K N v) (q0 : ok L K p0 12) (q1 : rg p1) (q2 : rg p2) (q3 : rg p3) : Met l yX12_subscribe (jk yX12_subscribe cX12_subscribe 4 (some .boolean)) ({ frames := 1, cells := 0, slots := 0, locals := 21 }) (va_Pc [.ref p0.toNat, .int (iI p1), .int (iI p2), .int (iI p3)] (xP (dC, dI) (xG L cid K N v) (xT cid) tW sK sV sz)) (va_Qi (fun (r : Int32) (u : (Int → Int → Int)) => ∃ z : Int, r = iI z ∧ (xI L K N u) ∧ (fr K [(40, (-1)), (41, (-1))] u v) ∧ (0 ≤ z ∧ z ≤ 1)) (fun u t => va_P (dC, dI) vwCl (xG L cid K N u) t.heap ∧ va_K (dC, dI) vwCl (xT cid) t ∧ va_D (va_A (xG L cid K N v) sz) (xG L cid K N u)) (va_A (xG L cid K N v) sz)) 0 0 (va_A (xG L cid K N v) sz) := by
  refine Met.ofW (cc := cX12_subscribe) (maxL := 4) (ret := (some .boolean)) (by decide) rfl ?_
  intro p e s m args below meth c s₁ B hml hv
  obtain ⟨rfl, ⟨hsz, hP, hK, hD0⟩, hX⟩ := hv
  have hx := B.exec
  have hb := B.bytes
  have hr := B.returns
  have hts := atoms_spec (ws := (jk yX12_subscribe cX12_subscribe 4 (some .boolean))) B.pre
  have hj : ∀ w ∈ jw, w.before ([.ref p0.toNat, .int (iI p1), .int (iI p2), .int (iI p3)] : List Value).toArray s = true := fun w h => hts w (jm h)
  have hown : s.vm.findClass RX12 = some m.cls := findClass_of_methodNamed B.named
  subst hsz
  have hD := hD0.self (sz := s.heap.size)
  generalize hAe : (va_A (xG L cid K N v) s.heap.size) = A at hD hX ⊢
  have hA : ∀ q : Nat, s.heap.size ≤ q → A q := fun q h => by rw [← hAe]; exact Or.inr h
  have hS : va_S A s.heap s.heap [] := va_S.rf
  have hXa := hX
  have hP : va_P (dC, dI) vwCl (xG L cid K N v) s.heap := hP
  have hl := lv_entry ([.ref p0.toNat, .int (iI p1), .int (iI p2), .int (iI p3)]) (n := 4) (Nat.le_of_ble_eq_true rfl)
  rw [lg_entry_eq]
  generalize (lg_sl ([.ref p0.toNat, .int (iI p1), .int (iI p2), .int (iI p3)]) ++ List.replicate (4 - (lg_sl ([.ref p0.toNat, .int (iI p1), .int (iI p2), .int (iI p3)])).length) Slot.unset).toArray = ls at hl ⊢
  have hl : lv_has ls 4 [(0, .ref p0.toNat), (1, .int (iI p1)), (2, .int (iI p2)), (3, .int (iI p3))] := hl
  generalize hQ : MQ below (va_Qi (fun (r : Int32) (u : (Int → Int → Int)) => ∃ z : Int, r = iI z ∧ (xI L K N u) ∧ (fr K [(40, (-1)), (41, (-1))] u v) ∧ (0 ≤ z ∧ z ≤ 1)) (fun u t => va_P (dC, dI) vwCl (xG L cid K N u) t.heap ∧ va_K (dC, dI) vwCl (xT cid) t ∧ va_D A (xG L cid K N u)) A) ([.ref p0.toNat, .int (iI p1), .int (iI p2), .int (iI p3)] : List Value).toArray s 0 0 A = Q
  suffices ST : ∀ (H : Heap) (locs : List Loc), va_P (dC, dI) vwCl (xG L cid K N v) H → va_S A s.heap H locs → W p l e ({ frames := 1, cells := 0, slots := 0, locals := 21 }) s m ([.ref p0.toNat, .int (iI p1), .int (iI p2), .int (iI p3)] : List Value).toArray below meth c H locs 0 0 Q (F0 m 0 ls []) from ST _ _ hP hS
  clear hP hS
  intro H locs hP hS
  refine lv_aload_n hx hb dX12_subscribe_0 rfl (lv_at hl 0 rfl) ?_
  refine lv_iload_n hx hb dX12_subscribe_1 rfl (lv_at hl 1 rfl) ?_
  refine jc_i (va_runV (As := [.int (iI p1)]) (rest := []) ⟨hx, hb, hml, hown, hts⟩ (sX12_isSubscriber l dC dI _ p0 p1 (by omega)) (cwV 1 hts (jgoodV m_1170 m_1171 m_1172 m_873 m_1173) rfl rfl rfl (by decide +kernel) ⟨(Nat.le_of_ble_eq_true rfl), (Nat.le_of_ble_eq_true rfl)⟩) ⟨jw_blind0, xrecv hK hP q0 rfl rfl, fun U hU hW => ⟨rfl, congrArg Array.size hU⟩⟩ rfl rfl hl.1 rfl (lv_room (Nat.le_of_ble_eq_true rfl)) dX12_subscribe_2 ⟨(Nat.le_of_ble_eq_true rfl), (Nat.le_of_ble_eq_true rfl)⟩) hP hS hA (fun r_1 H locs w_2 hP hS => ?_)
  obtain ⟨z_3, rfl, h_4, h_5⟩ := w_2
  refine xr_if_eq (tgt := 38) hx hb dX12_subscribe_5 (by decide) (by omega) (fun h_6 => ?_) (fun h_6 => ?_)
  · refine lv_iconst (v := iI 0) hx hb dX12_subscribe_38 rfl ?_
    rw [← hQ]
    exact W.zret (v := iI 0) (ty := .boolean) hx hb hr (nb_bool (by omega) (by omega)) (fun t ht hW => ⟨⟨iI 0, v, rfl, ⟨0, rfl, hI, fr_rf, by omega⟩, by rw [ht]; exact hP, va_K.moved hW.alike hK, hD⟩, hS.F ht⟩) hS.2.2 dX12_subscribe_39
  · refine lv_aload_n hx hb dX12_subscribe_8 rfl (lv_at hl 0 rfl) ?_
    refine lv_iload_n hx hb dX12_subscribe_9 rfl (lv_at hl 2 rfl) ?_
    refine jc_i (va_runV (As := [.int (iI p2)]) (rest := []) ⟨hx, hb, hml, hown, hts⟩ (sX12_isVolume l dC dI _ p0 p2 (by omega)) (cwV 1 hts (jgoodV m_985 m_986 m_987 m_873 m_988) rfl rfl rfl (by decide +kernel) ⟨(Nat.le_of_ble_eq_true rfl), (Nat.le_of_ble_eq_true rfl)⟩) ⟨jw_blind0, xrecv hK hP q0 rfl rfl, fun U hU hW => ⟨rfl, congrArg Array.size hU⟩⟩ rfl rfl hl.1 rfl (lv_room (Nat.le_of_ble_eq_true rfl)) dX12_subscribe_10 ⟨(Nat.le_of_ble_eq_true rfl), (Nat.le_of_ble_eq_true rfl)⟩) hP hS hA (fun r_7 H locs w_8 hP hS => ?_)
    obtain ⟨z_9, rfl, h_10, h_11⟩ := w_8
    refine xr_if_eq (tgt := 38) hx hb dX12_subscribe_13 (by decide) (by omega) (fun h_12 => ?_) (fun h_12 => ?_)
    · refine lv_iconst (v := iI 0) hx hb dX12_subscribe_38 rfl ?_
      rw [← hQ]
      exact W.zret (v := iI 0) (ty := .boolean) hx hb hr (nb_bool (by omega) (by omega)) (fun t ht hW => ⟨⟨iI 0, v, rfl, ⟨0, rfl, hI, fr_rf, by omega⟩, by rw [ht]; exact hP, va_K.moved hW.alike hK, hD⟩, hS.F ht⟩) hS.2.2 dX12_subscribe_39
    · refine lv_iload_n hx hb dX12_subscribe_16 rfl (lv_at hl 3 rfl) ?_
      refine lv_iconst (v := iI 1) hx hb dX12_subscribe_17 rfl ?_
      refine xr_icmp_lt (tgt := 38) hx hb dX12_subscribe_18 (by decide) (by omega) (by omega) (fun h_13 => ?_) (fun h_13 => ?_)
      · refine lv_iconst (v := iI 0) hx hb dX12_subscribe_38 rfl ?_
        rw [← hQ]
        exact W.zret (v := iI 0) (ty := .boolean) hx hb hr (nb_bool (by omega) (by omega)) (fun t ht hW => ⟨⟨iI 0, v, rfl, ⟨0, rfl, hI, fr_rf, by omega⟩, by rw [ht]; exact hP, va_K.moved hW.alike hK, hD⟩, hS.F ht⟩) hS.2.2 dX12_subscribe_39
      · refine lv_iload_n hx hb dX12_subscribe_21 rfl (lv_at hl 3 rfl) ?_
        refine lv_sipush (v := iI 999) hx hb dX12_subscribe_22 rfl ?_
        refine xr_icmp_gt (tgt := 38) hx hb dX12_subscribe_25 (by decide) (by omega) (by omega) (fun h_14 => ?_) (fun h_14 => ?_)
        · refine lv_iconst (v := iI 0) hx hb dX12_subscribe_38 rfl ?_
          rw [← hQ]
          exact W.zret (v := iI 0) (ty := .boolean) hx hb hr (nb_bool (by omega) (by omega)) (fun t ht hW => ⟨⟨iI 0, v, rfl, ⟨0, rfl, hI, fr_rf, by omega⟩, by rw [ht]; exact hP, va_K.moved hW.alike hK, hD⟩, hS.F ht⟩) hS.2.2 dX12_subscribe_39
        · refine lv_aload_n hx hb dX12_subscribe_28 rfl (lv_at hl 0 rfl) ?_
          have h_15 : ok L K (v p0 15) 40 := xf_12_15 hI q0
          have h_16 : N (v p0 15) = 10 := xn_40 hI h_15
          refine gx_RX12_70 (y := v p0 15) hx hb hj hown hK hP q0 ((xf_12_15 hI q0).1) rfl dX12_subscribe_29 ?_
          refine lv_iload_n hx hb dX12_subscribe_32 rfl (lv_at hl 1 rfl) ?_
          have h_17 : (-2147483648) ≤ v (v p0 15) p1 ∧ v (v p0 15) p1 ≤ 2147483647 := xe_40 hI h_15 (by omega)
          refine ax_40 (y := v (v p0 15) p1) hx hb hK hP h_15 (by omega) (by omega) (by omega) rfl dX12_subscribe_33 ?_
          refine lv_iconst (v := iI (-1)) hx hb dX12_subscribe_34 rfl ?_
          refine xr_icmp_eq (tgt := 40) hx hb dX12_subscribe_35 (by decide) (by omega) (by omega) (fun h_18 => ?_) (fun h_18 => ?_)
          · refine lv_aload_n hx hb dX12_subscribe_40 rfl (lv_at hl 0 rfl) ?_
            refine gx_RX12_70 (y := v p0 15) hx hb hj hown hK hP q0 ((xf_12_15 hI q0).1) rfl dX12_subscribe_41 ?_
            refine lv_iload_n hx hb dX12_subscribe_44 rfl (lv_at hl 1 rfl) ?_
            refine lv_iload_n hx hb dX12_subscribe_45 rfl (lv_at hl 2 rfl) ?_
            refine sx_40 (y := p2) hx hb hK hP hD hS hI h_15 (by omega) (by omega) (by omega) ⟨by omega, by omega⟩ dX12_subscribe_46 (fun v_19 H locs f_20 e_21 o_22 I_23 hP hD hS => ?_)
            refine lv_aload_n hx hb dX12_subscribe_47 rfl (lv_at hl 0 rfl) ?_
            have h_24 : ok L K (v p0 16) 41 := xf_12_16 hI q0
            have h_25 : N (v p0 16) = 10 := xn_41 hI h_24
            refine gx_RX12_73 (y := v p0 16) hx hb hj hown hK hP q0 ((xf_12_16 I_23 q0).1) (fr_use q0 f_20 rfl) dX12_subscribe_48 ?_
            refine lv_iload_n hx hb dX12_subscribe_51 rfl (lv_at hl 1 rfl) ?_
            refine lv_iload_n hx hb dX12_subscribe_52 rfl (lv_at hl 3 rfl) ?_
            refine sx_41 (y := p3) hx hb hK hP hD hS I_23 h_24 (by omega) (by omega) (by omega) ⟨by omega, by omega⟩ dX12_subscribe_53 (fun v_26 H locs f_27 e_28 o_29 I_30 hP hD hS => ?_)
            refine lv_iconst (v := iI 1) hx hb dX12_subscribe_54 rfl ?_
            rw [← hQ]
            exact W.zret (v := iI 1) (ty := .boolean) hx hb hr (nb_bool (by omega) (by omega)) (fun t ht hW => ⟨⟨iI 1, v_26, rfl, ⟨1, rfl, I_30, (fr_tr f_27 rfl (fr_tr f_20 rfl fr_rf)), by omega⟩, by rw [ht]; exact hP, va_K.moved hW.alike hK, hD⟩, hS.F ht⟩) hS.2.2 dX12_subscribe_55
          · refine lv_iconst (v := iI 0) hx hb dX12_subscribe_38 rfl ?_
            rw [← hQ]
            exact W.zret (v := iI 0) (ty := .boolean) hx hb hr (nb_bool (by omega) (by omega)) (fun t ht hW => ⟨⟨iI 0, v, rfl, ⟨0, rfl, hI, fr_rf, by omega⟩, by rw [ht]; exact hP, va_K.moved hW.alike hK, hD⟩, hS.F ht⟩) hS.2.2 dX12_subscribe_39
set_option maxHeartbeats 2000000 in
set_option maxRecDepth 100000 in
theorem sX12_owed (l : Launch) (dC : Nat → ClassId) (dI : Nat → Nat → Nat) (sz : Nat) (L : List Nat) (cid : Nat → ClassId) (K : Int → Nat) (N : Int → Int) (tW : Nat) (sK sV : Nat → Nat) (v : Int → Int → Int) (p0 : Int) (p1 : Int) (p2 : Int) (hI : xI L K N v) (q0 : ok L K p0 12) (q1 : rg p1) (q2 : rg p2) : Met l yX12_owed (jk yX12_owed cX12_owed 5 (some .int)) ({ frames := 4, cells := 0, slots := 0, locals := 115 }) (va_Pc [.ref p0.toNat, .int (iI p1), .int (iI p2)] (xP (dC, dI) (xG L cid K N v) (xT cid) tW sK sV sz)) (va_Qi (fun (r : Int32) (u : (Int → Int → Int)) => ∃ z : Int, r = iI z ∧ (xI L K N u) ∧ (fr K [(33, (-1)), (34, (-1))] u v) ∧ (rg z)) (fun u t => va_P (dC, dI) vwCl (xG L cid K N u) t.heap ∧ va_K (dC, dI) vwCl (xT cid) t ∧ va_D (va_A (xG L cid K N v) sz) (xG L cid K N u)) (va_A (xG L cid K N v) sz)) 0 0 (va_A (xG L cid K N v) sz) := by
  refine Met.ofW (cc := cX12_owed) (maxL := 5) (ret := (some .int)) (by decide) rfl ?_
  intro p e s m args below meth c s₁ B hml hv
  obtain ⟨rfl, ⟨hsz, hP, hK, hD0⟩, hX⟩ := hv
  have hx := B.exec
  have hb := B.bytes
  have hr := B.returns
  have hts := atoms_spec (ws := (jk yX12_owed cX12_owed 5 (some .int))) B.pre
  have hj : ∀ w ∈ jw, w.before ([.ref p0.toNat, .int (iI p1), .int (iI p2)] : List Value).toArray s = true := fun w h => hts w (jm h)
  have hown : s.vm.findClass RX12 = some m.cls := findClass_of_methodNamed B.named
  subst hsz
  have hD := hD0.self (sz := s.heap.size)
  generalize hAe : (va_A (xG L cid K N v) s.heap.size) = A at hD hX ⊢
  have hA : ∀ q : Nat, s.heap.size ≤ q → A q := fun q h => by rw [← hAe]; exact Or.inr h
  have hS : va_S A s.heap s.heap [] := va_S.rf
  have hXa := hX
  have hP : va_P (dC, dI) vwCl (xG L cid K N v) s.heap := hP
  have hl := lv_entry ([.ref p0.toNat, .int (iI p1), .int (iI p2)]) (n := 5) (Nat.le_of_ble_eq_true rfl)
  rw [lg_entry_eq]
  generalize (lg_sl ([.ref p0.toNat, .int (iI p1), .int (iI p2)]) ++ List.replicate (5 - (lg_sl ([.ref p0.toNat, .int (iI p1), .int (iI p2)])).length) Slot.unset).toArray = ls at hl ⊢
  have hl : lv_has ls 5 [(0, .ref p0.toNat), (1, .int (iI p1)), (2, .int (iI p2))] := hl
  generalize hQ : MQ below (va_Qi (fun (r : Int32) (u : (Int → Int → Int)) => ∃ z : Int, r = iI z ∧ (xI L K N u) ∧ (fr K [(33, (-1)), (34, (-1))] u v) ∧ (rg z)) (fun u t => va_P (dC, dI) vwCl (xG L cid K N u) t.heap ∧ va_K (dC, dI) vwCl (xT cid) t ∧ va_D A (xG L cid K N u)) A) ([.ref p0.toNat, .int (iI p1), .int (iI p2)] : List Value).toArray s 0 0 A = Q
  suffices ST : ∀ (H : Heap) (locs : List Loc), va_P (dC, dI) vwCl (xG L cid K N v) H → va_S A s.heap H locs → W p l e ({ frames := 4, cells := 0, slots := 0, locals := 115 }) s m ([.ref p0.toNat, .int (iI p1), .int (iI p2)] : List Value).toArray below meth c H locs 0 0 Q (F0 m 0 ls []) from ST _ _ hP hS
  clear hP hS
  intro H locs hP hS
  refine lv_aload_n hx hb dX12_owed_0 rfl (lv_at hl 0 rfl) ?_
  refine lv_iload_n hx hb dX12_owed_1 rfl (lv_at hl 2 rfl) ?_
  refine jc_q (va_runV (As := [.int (iI p2)]) (rest := []) ⟨hx, hb, hml, hown, hts⟩ (sX12_setVolumeAt l dC dI _ L cid K N tW sK sV v p0 p2 hI q0 (by omega)) (cwV 1 hts (jgoodV m_1174 m_1175 m_1176 m_873 m_1177) rfl rfl rfl (by decide +kernel) ⟨(Nat.le_of_ble_eq_true rfl), (Nat.le_of_ble_eq_true rfl)⟩) ⟨xP_blind, xrecv hK hP q0 rfl rfl, fun U hU hW => ⟨rfl, xP_of hU hW hP hK hD hX hS (fun _ h => h) hA⟩⟩ rfl rfl hl.1 rfl (lv_room (Nat.le_of_ble_eq_true rfl)) dX12_owed_2 ⟨(Nat.le_of_ble_eq_true rfl), (Nat.le_of_ble_eq_true rfl)⟩) hP hS hA (fun r_1 H locs w_2 hP hS => ?_)
  obtain ⟨z_3, rfl, h_4⟩ := w_2
  refine jt_q (rv z_3) rfl ?_
  refine xq_astore_n (i := 3) (lv' := [(3, rv z_3), (0, .ref p0.toNat), (1, .int (iI p1)), (2, .int (iI p2))]) hx hb dX12_owed_5 rfl hl (by decide) rfl (fun ls hl => ?_)
  refine xq_aload_n hx hb dX12_owed_6 rfl (lv_at hl 0 rfl) ?_
  refine xq_ifnull (tgt := 38) hx hb dX12_owed_7 (by decide) (fun h_5 => ?_) (fun h_5 => ?_)
  · refine lv_iconst (v := iI (-1)) hx hb dX12_owed_38 rfl ?_
    rw [← hQ]
    exact W.iret (v := iI (-1)) hx hb hr (fun t ht hW => ⟨⟨iI (-1), v, rfl, ⟨(-1), rfl, hI, fr_rf, by omega⟩, by rw [ht]; exact hP, va_K.moved hW.alike hK, hD⟩, hS.F ht⟩) hS.2.2 dX12_owed_39
  · have h_6 : ok L K z_3 11 := h_4.resolve_left (by omega)
    refine lv_aload_n hx hb dX12_owed_10 rfl (lv_at hl 1 rfl) ?_
    refine lv_iload_n hx hb dX12_owed_11 rfl (lv_at hl 2 rfl) ?_
    refine jc_i (va_runV (As := [.int (iI p1)]) (rest := []) ⟨hx, hb, hml, hown, hts⟩ (sX12_isSubscriber l dC dI _ p0 p1 (by omega)) (cwV 1 hts (jgoodV m_1170 m_1171 m_1172 m_873 m_1173) rfl rfl rfl (by decide +kernel) ⟨(Nat.le_of_ble_eq_true rfl), (Nat.le_of_ble_eq_true rfl)⟩) ⟨jw_blind0, xrecv hK hP q0 rfl rfl, fun U hU hW => ⟨rfl, congrArg Array.size hU⟩⟩ rfl rfl hl.1 rfl (lv_room (Nat.le_of_ble_eq_true rfl)) dX12_owed_12 ⟨(Nat.le_of_ble_eq_true rfl), (Nat.le_of_ble_eq_true rfl)⟩) hP hS hA (fun r_7 H locs w_8 hP hS => ?_)
    obtain ⟨z_9, rfl, h_10, h_11⟩ := w_8
    refine xr_if_eq (tgt := 38) hx hb dX12_owed_15 (by decide) (by omega) (fun h_12 => ?_) (fun h_12 => ?_)
    · refine lv_iconst (v := iI (-1)) hx hb dX12_owed_38 rfl ?_
      rw [← hQ]
      exact W.iret (v := iI (-1)) hx hb hr (fun t ht hW => ⟨⟨iI (-1), v, rfl, ⟨(-1), rfl, hI, fr_rf, by omega⟩, by rw [ht]; exact hP, va_K.moved hW.alike hK, hD⟩, hS.F ht⟩) hS.2.2 dX12_owed_39
    · refine lv_aload_n hx hb dX12_owed_18 rfl (lv_at hl 1 rfl) ?_
      have h_13 : ok L K (v p0 15) 40 := xf_12_15 hI q0
      have h_14 : N (v p0 15) = 10 := xn_40 hI h_13
      refine gx_RX12_70 (y := v p0 15) hx hb hj hown hK hP q0 ((xf_12_15 hI q0).1) rfl dX12_owed_19 ?_
      refine lv_iload_n hx hb dX12_owed_22 rfl (lv_at hl 2 rfl) ?_
      have h_15 : (-2147483648) ≤ v (v p0 15) p1 ∧ v (v p0 15) p1 ≤ 2147483647 := xe_40 hI h_13 (by omega)
      refine ax_40 (y := v (v p0 15) p1) hx hb hK hP h_13 (by omega) (by omega) (by omega) rfl dX12_owed_23 ?_
      refine lv_iconst (v := iI (-1)) hx hb dX12_owed_24 rfl ?_
      refine xr_icmp_eq (tgt := 38) hx hb dX12_owed_25 (by decide) (by omega) (by omega) (fun h_16 => ?_) (fun h_16 => ?_)
      · refine lv_iconst (v := iI (-1)) hx hb dX12_owed_38 rfl ?_
        rw [← hQ]
        exact W.iret (v := iI (-1)) hx hb hr (fun t ht hW => ⟨⟨iI (-1), v, rfl, ⟨(-1), rfl, hI, fr_rf, by omega⟩, by rw [ht]; exact hP, va_K.moved hW.alike hK, hD⟩, hS.F ht⟩) hS.2.2 dX12_owed_39
      · refine lv_iload_n hx hb dX12_owed_28 rfl (lv_at hl 3 rfl) ?_
        refine lv_aload_n hx hb dX12_owed_29 rfl (lv_at hl 1 rfl) ?_
        refine gx_RX12_70 (y := v p0 15) hx hb hj hown hK hP q0 ((xf_12_15 hI q0).1) rfl dX12_owed_30 ?_
        refine lv_iload_n hx hb dX12_owed_33 rfl (lv_at hl 2 rfl) ?_
        refine ax_40 (y := v (v p0 15) p1) hx hb hK hP h_13 (by omega) (by omega) (by omega) rfl dX12_owed_34 ?_
        refine xr_icmp_ge (tgt := 40) hx hb dX12_owed_35 (by decide) (by omega) (by omega) (fun h_17 => ?_) (fun h_17 => ?_)
        · refine lv_aload_n hx hb dX12_owed_40 rfl (lv_at hl 1 rfl) ?_
          have h_18 : ok L K (v p0 3) 8 := xf_12_3 hI q0
          refine gx_RX12_19 (y := v p0 3) hx hb hj hown hK hP q0 ((xf_12_3 hI q0).1) rfl dX12_owed_41 ?_
          refine jcg_v (va_runV (As := []) (rest := []) ⟨hx, hb, hml, hown, hts⟩ (sX8_forgetNames l dC dI _ L cid K N tW sK sV v (v p0 3) hI h_18) (cwV 0 hts (jgoodV m_1178 m_1179 m_1180 m_928 m_1181) rfl rfl rfl (by decide +kernel) ⟨(Nat.le_of_ble_eq_true rfl), (Nat.le_of_ble_eq_true rfl)⟩) ⟨xP_blind, xrecv hK hP h_18 rfl rfl, fun U hU hW => ⟨rfl, xP_of hU hW hP hK hD hX hS (fun _ h => h) hA⟩⟩ rfl rfl hl.1 rfl (lv_room (Nat.le_of_ble_eq_true rfl)) dX12_owed_44 ⟨(Nat.le_of_ble_eq_true rfl), (Nat.le_of_ble_eq_true rfl)⟩) hD hS hA (fun v_22 H locs w_20 hP hK hD hS => ?_)
          obtain ⟨I_24, f_23⟩ := w_20
          have hP : va_P (dC, dI) vwCl (xG L cid K N v_22) H := hP
          have hD : va_D A (xG L cid K N v_22) := hD
          refine lv_aload_n hx hb dX12_owed_47 rfl (lv_at hl 1 rfl) ?_
          refine gx_RX12_19 (y := v p0 3) hx hb hj hown hK hP q0 ((xf_12_3 I_24 q0).1) (fr_use q0 f_23 rfl) dX12_owed_48 ?_
          refine lv_bipush (v := iI 8) hx hb dX12_owed_51 rfl ?_
          refine xq_aload_n hx hb dX12_owed_53 rfl (lv_at hl 0 rfl) ?_
          refine jt_q (.ref z_3.toNat) (rv_ref (h_6).1) ?_
          have h_25 : (-2147483648) ≤ v z_3 6 ∧ v z_3 6 ≤ 2147483647 := xf_11_6 hI h_6
          refine gx_RX12_465 (y := v z_3 6) hx hb hj hown hK hP h_6 (fr_use h_6 f_23 rfl) dX12_owed_54 ?_
          refine jcg_v (va_runV (As := [.int (iI 8), .int (iI (v z_3 6))]) (rest := []) ⟨hx, hb, hml, hown, hts⟩ (sX8_name l dC dI _ L cid K N tW sK sV v_22 (v p0 3) 8 (v z_3 6) I_24 h_18 (by omega) (by omega)) (cwV 2 hts (jgoodV m_1068 m_1069 m_1070 m_928 m_1071) rfl rfl rfl (by decide +kernel) ⟨(Nat.le_of_ble_eq_true rfl), (Nat.le_of_ble_eq_true rfl)⟩) ⟨xP_blind, xrecv hK hP h_18 rfl rfl, fun U hU hW => ⟨rfl, xP_of hU hW hP hK hD hX hS (fun _ h => h) hA⟩⟩ rfl rfl hl.1 rfl (lv_room (Nat.le_of_ble_eq_true rfl)) dX12_owed_57 ⟨(Nat.le_of_ble_eq_true rfl), (Nat.le_of_ble_eq_true rfl)⟩) hD hS hA (fun v_29 H locs w_27 hP hK hD hS => ?_)
          obtain ⟨I_31, f_30⟩ := w_27
          have hP : va_P (dC, dI) vwCl (xG L cid K N v_29) H := hP
          have hD : va_D A (xG L cid K N v_29) := hD
          refine lv_aload_n hx hb dX12_owed_60 rfl (lv_at hl 1 rfl) ?_
          refine gx_RX12_19 (y := v p0 3) hx hb hj hown hK hP q0 ((xf_12_3 I_31 q0).1) (((fr_use q0 f_30 rfl)).trans (fr_use q0 f_23 rfl)) dX12_owed_61 ?_
          refine lv_iconst (v := iI 1) hx hb dX12_owed_64 rfl ?_
          refine xq_aload_n hx hb dX12_owed_65 rfl (lv_at hl 0 rfl) ?_
          refine jt_q (.ref z_3.toNat) (rv_ref (h_6).1) ?_
          have h_32 : (-2147483648) ≤ v z_3 5 ∧ v z_3 5 ≤ 2147483647 := xf_11_5 hI h_6
          refine gx_RX12_450 (y := v z_3 5) hx hb hj hown hK hP h_6 (((fr_use h_6 f_30 rfl)).trans (fr_use h_6 f_23 rfl)) dX12_owed_66 ?_
          refine jcg_v (va_runV (As := [.int (iI 1), .int (iI (v z_3 5))]) (rest := []) ⟨hx, hb, hml, hown, hts⟩ (sX8_name l dC dI _ L cid K N tW sK sV v_29 (v p0 3) 1 (v z_3 5) I_31 h_18 (by omega) (by omega)) (cwV 2 hts (jgoodV m_1068 m_1069 m_1070 m_928 m_1071) rfl rfl rfl (by decide +kernel) ⟨(Nat.le_of_ble_eq_true rfl), (Nat.le_of_ble_eq_true rfl)⟩) ⟨xP_blind, xrecv hK hP h_18 rfl rfl, fun U hU hW => ⟨rfl, xP_of hU hW hP hK hD hX hS (fun _ h => h) hA⟩⟩ rfl rfl hl.1 rfl (lv_room (Nat.le_of_ble_eq_true rfl)) dX12_owed_69 ⟨(Nat.le_of_ble_eq_true rfl), (Nat.le_of_ble_eq_true rfl)⟩) hD hS hA (fun v_36 H locs w_34 hP hK hD hS => ?_)
          obtain ⟨I_38, f_37⟩ := w_34
          have hP : va_P (dC, dI) vwCl (xG L cid K N v_36) H := hP
          have hD : va_D A (xG L cid K N v_36) := hD
          refine lv_aload_n hx hb dX12_owed_72 rfl (lv_at hl 1 rfl) ?_
          refine gx_RX12_19 (y := v p0 3) hx hb hj hown hK hP q0 ((xf_12_3 I_38 q0).1) (((fr_use q0 f_37 rfl)).trans (((fr_use q0 f_30 rfl)).trans (fr_use q0 f_23 rfl))) dX12_owed_73 ?_
          refine lv_bipush (v := iI 7) hx hb dX12_owed_76 rfl ?_
          refine lv_iload_n hx hb dX12_owed_78 rfl (lv_at hl 3 rfl) ?_
          refine jcg_v (va_runV (As := [.int (iI 7), .int (iI p2)]) (rest := []) ⟨hx, hb, hml, hown, hts⟩ (sX8_name l dC dI _ L cid K N tW sK sV v_36 (v p0 3) 7 p2 I_38 h_18 (by omega) (by omega)) (cwV 2 hts (jgoodV m_1068 m_1069 m_1070 m_928 m_1071) rfl rfl rfl (by decide +kernel) ⟨(Nat.le_of_ble_eq_true rfl), (Nat.le_of_ble_eq_true rfl)⟩) ⟨xP_blind, xrecv hK hP h_18 rfl rfl, fun U hU hW => ⟨rfl, xP_of hU hW hP hK hD hX hS (fun _ h => h) hA⟩⟩ rfl rfl hl.1 rfl (lv_room (Nat.le_of_ble_eq_true rfl)) dX12_owed_79 ⟨(Nat.le_of_ble_eq_true rfl), (Nat.le_of_ble_eq_true rfl)⟩) hD hS hA (fun v_42 H locs w_40 hP hK hD hS => ?_)
          obtain ⟨I_44, f_43⟩ := w_40
          have hP : va_P (dC, dI) vwCl (xG L cid K N v_42) H := hP
          have hD : va_D A (xG L cid K N v_42) := hD
          refine lv_aload_n hx hb dX12_owed_82 rfl (lv_at hl 1 rfl) ?_
          refine gx_RX12_19 (y := v p0 3) hx hb hj hown hK hP q0 ((xf_12_3 I_44 q0).1) (((fr_use q0 f_43 rfl)).trans (((fr_use q0 f_37 rfl)).trans (((fr_use q0 f_30 rfl)).trans (fr_use q0 f_23 rfl)))) dX12_owed_83 ?_
          refine lv_iconst (v := iI 4) hx hb dX12_owed_86 rfl ?_
          refine lv_iload_n hx hb dX12_owed_87 rfl (lv_at hl 3 rfl) ?_
          refine xq_aload_n hx hb dX12_owed_88 rfl (lv_at hl 0 rfl) ?_
          refine jt_q (.ref z_3.toNat) (rv_ref (h_6).1) ?_
          have h_45 : (-2147483648) ≤ v z_3 1 ∧ v z_3 1 ≤ 2147483647 := xf_11_1 hI h_6
          refine gx_RX12_170 (y := v z_3 1) hx hb hj hown hK hP h_6 (((fr_use h_6 f_43 rfl)).trans (((fr_use h_6 f_37 rfl)).trans (((fr_use h_6 f_30 rfl)).trans (fr_use h_6 f_23 rfl)))) dX12_owed_89 ?_
          refine jcg_i (va_runV (As := [.int (iI 4), .int (iI p2), .int (iI (v z_3 1))]) (rest := []) ⟨hx, hb, hml, hown, hts⟩ (sX8_valueOf l dC dI _ L cid K N tW sK sV v_42 (v p0 3) 4 p2 (v z_3 1) I_44 h_18 (by omega) (by omega) (by omega)) (cwV 3 hts (jgoodV m_1088 m_956 m_957 m_928 m_958) rfl rfl rfl (by decide +kernel) ⟨(Nat.le_of_ble_eq_true rfl), (Nat.le_of_ble_eq_true rfl)⟩) ⟨xP_blind, xrecv hK hP h_18 rfl rfl, fun U hU hW => ⟨rfl, xP_of hU hW hP hK hD hX hS (fun _ h => h) hA⟩⟩ rfl rfl hl.1 rfl (lv_room (Nat.le_of_ble_eq_true rfl)) dX12_owed_92 ⟨(Nat.le_of_ble_eq_true rfl), (Nat.le_of_ble_eq_true rfl)⟩) hD hS hA (fun r_46 v_50 H locs w_47 hP hK hD hS => ?_)
          obtain ⟨z_48, rfl, I_52, f_51, h_49⟩ := w_47
          have hP : va_P (dC, dI) vwCl (xG L cid K N v_50) H := hP
          have hD : va_D A (xG L cid K N v_50) := hD
          refine lv_istore (i := 4) (lv' := [(4, .int (iI z_48)), (3, rv z_3), (0, .ref p0.toNat), (1, .int (iI p1)), (2, .int (iI p2))]) hx hb dX12_owed_95 hl (by decide) (by simp [rv_cat]) (fun ls hl => ?_)
          refine lv_iconst (v := iI 0) hx hb dX12_owed_97 rfl ?_
          refine lv_aload_n hx hb dX12_owed_98 rfl (lv_at hl 2 rfl) ?_
          have h_53 : ok L K (v p0 16) 41 := xf_12_16 hI q0
          have h_54 : N (v p0 16) = 10 := xn_41 hI h_53
          refine gx_RX12_73 (y := v p0 16) hx hb hj hown hK hP q0 ((xf_12_16 I_52 q0).1) (((fr_use q0 f_51 rfl)).trans (((fr_use q0 f_43 rfl)).trans (((fr_use q0 f_37 rfl)).trans (((fr_use q0 f_30 rfl)).trans (fr_use q0 f_23 rfl))))) dX12_owed_99 ?_
          refine lv_iload_n hx hb dX12_owed_102 rfl (lv_at hl 3 rfl) ?_
          have h_55 : (-2147483648) ≤ v (v p0 16) p1 ∧ v (v p0 16) p1 ≤ 2147483647 := xe_41 hI h_53 (by omega)
          refine ax_41 (y := v (v p0 16) p1) hx hb hK hP h_53 (by omega) (by omega) (by omega) (((fr_use h_53 f_51 rfl)).trans (((fr_use h_53 f_43 rfl)).trans (((fr_use h_53 f_37 rfl)).trans (((fr_use h_53 f_30 rfl)).trans (fr_use h_53 f_23 rfl))))) dX12_owed_103 ?_
          refine lv_iload hx hb dX12_owed_104 (lv_at hl 0 rfl) ?_
          refine va_mmin hx hb (by rw [hml]; exact hl.1.symm) hown (hj _ m_897) (hj _ m_765) (hj _ m_762) (hj _ m_766) (Nat.le_of_ble_eq_true rfl) (Nat.le_of_ble_eq_true rfl) (Nat.le_of_ble_eq_true rfl) (Nat.le_of_ble_eq_true rfl) dX12_owed_106 ?_
          refine xm_min (by omega) (by omega) (fun z_56 h_57 => ?_)
          refine va_mmax hx hb (by rw [hml]; exact hl.1.symm) hown (hj _ m_1182) (hj _ m_761) (hj _ m_762) (hj _ m_763) (Nat.le_of_ble_eq_true rfl) (Nat.le_of_ble_eq_true rfl) (Nat.le_of_ble_eq_true rfl) (Nat.le_of_ble_eq_true rfl) dX12_owed_109 ?_
          refine xm_max (by omega) (by omega) (fun z_58 h_59 => ?_)
          rw [← hQ]
          exact W.iret (v := iI z_58) hx hb hr (fun t ht hW => ⟨⟨iI z_58, v_50, rfl, ⟨z_58, rfl, I_52, (fr_tr f_51 rfl (fr_tr f_43 rfl (fr_tr f_37 rfl (fr_tr f_30 rfl (fr_tr f_23 rfl fr_rf))))), by omega⟩, by rw [ht]; exact hP, va_K.moved hW.alike hK, hD⟩, hS.F ht⟩) hS.2.2 dX12_owed_112
        · refine lv_iconst (v := iI (-1)) hx hb dX12_owed_38 rfl ?_
          rw [← hQ]
          exact W.iret (v := iI (-1)) hx hb hr (fun t ht hW => ⟨⟨iI (-1), v, rfl, ⟨(-1), rfl, hI, fr_rf, by omega⟩, by rw [ht]; exact hP, va_K.moved hW.alike hK, hD⟩, hS.F ht⟩) hS.2.2 dX12_owed_39
