set_option maxHeartbeats 2000000 in
set_option maxRecDepth 100000 in
theorem sX12_endOf (l : Launch) (dC : Nat → ClassId) (dI : Nat → Nat → Nat) (sz : Nat) (L : List Nat) (cid : Nat → ClassId) (K : Int → Nat) (N : Int → Int) (tW : Nat) (sK sV : Nat → Nat) (v : Int → Int → Int) (p0 : Int) (p1 : Int) (hI : xI L K N v) (q0 : ok L K p0 12) (q1 : ok L K p1 0) : Met l yX12_endOf (jk yX12_endOf cX12_endOf 4 (some (.object "BookOfAll$Entry"))) ({ frames := 1, cells := 0, slots := 0, locals := 21 }) (va_Pc [.ref p0.toNat, .ref p1.toNat] (xP (dC, dI) (xG L cid K N v) (xT cid) tW sK sV sz)) (va_Qq (fun (r : Option Nat) (_ : Unit) => ∃ z : Int, r = opt z ∧ (z < 0 ∨ ok L K z 0)) (fun _ _ => True) (va_A [] sz)) 0 0 (va_A [] sz) := by
  refine Met.ofW (cc := cX12_endOf) (maxL := 4) (ret := (some (.object "BookOfAll$Entry"))) (by decide) rfl ?_
  intro p e s m args below meth c s₁ B hml hv
  obtain ⟨rfl, ⟨hsz, hP, hK, hD0⟩, hX⟩ := hv
  have hx := B.exec
  have hb := B.bytes
  have hr := B.returns
  have hts := atoms_spec (ws := (jk yX12_endOf cX12_endOf 4 (some (.object "BookOfAll$Entry")))) B.pre
  have hj : ∀ w ∈ jw, w.before ([.ref p0.toNat, .ref p1.toNat] : List Value).toArray s = true := fun w h => hts w (jm h)
  have hown : s.vm.findClass RX12 = some m.cls := findClass_of_methodNamed B.named
  subst hsz
  have hDw := hD0.self (sz := s.heap.size)
  have hAA : ∀ q : Nat, s.heap.size ≤ q → va_A (xG L cid K N v) s.heap.size q := fun q h => Or.inr h
  have hAw : ∀ q, va_A [] s.heap.size q → va_A (xG L cid K N v) s.heap.size q := ja_nil va_S.rf hAA
  generalize hAe : (va_A [] s.heap.size) = A at hAw ⊢
  have hA : ∀ q : Nat, s.heap.size ≤ q → A q := fun q h => by rw [← hAe]; exact Or.inr h
  have hS : va_S A s.heap s.heap [] := va_S.rf
  have hXa := hX.nar hAw
  have hP : va_P (dC, dI) vwCl (xG L cid K N v) s.heap := hP
  have hl := lv_entry ([.ref p0.toNat, .ref p1.toNat]) (n := 4) (Nat.le_of_ble_eq_true rfl)
  rw [lg_entry_eq]
  generalize (lg_sl ([.ref p0.toNat, .ref p1.toNat]) ++ List.replicate (4 - (lg_sl ([.ref p0.toNat, .ref p1.toNat])).length) Slot.unset).toArray = ls at hl ⊢
  have hl : lv_has ls 4 [(0, .ref p0.toNat), (1, .ref p1.toNat)] := hl
  generalize hQ : MQ below (va_Qq (fun (r : Option Nat) (_ : Unit) => ∃ z : Int, r = opt z ∧ (z < 0 ∨ ok L K z 0)) (fun _ _ => True) A) ([.ref p0.toNat, .ref p1.toNat] : List Value).toArray s 0 0 A = Q
  suffices ST : ∀ (H : Heap) (locs : List Loc), va_P (dC, dI) vwCl (xG L cid K N v) H → va_S A s.heap H locs → W p l e ({ frames := 1, cells := 0, slots := 0, locals := 21 }) s m ([.ref p0.toNat, .ref p1.toNat] : List Value).toArray below meth c H locs 0 0 Q (F0 m 0 ls []) from ST _ _ hP hS
  clear hP hS
  intro H locs hP hS
  refine lv_aload_n hx hb dX12_endOf_0 rfl (lv_at hl 1 rfl) ?_
  refine lv_astore_n (i := 2) (lv' := [(2, .ref p1.toNat), (0, .ref p0.toNat), (1, .ref p1.toNat)]) hx hb dX12_endOf_1 rfl hl (by decide) rfl (fun ls hl => ?_)
  refine lv_iconst (v := iI 0) hx hb dX12_endOf_2 rfl ?_
  refine lv_istore_n (i := 3) (lv' := [(3, .int (iI 0)), (2, .ref p1.toNat), (0, .ref p0.toNat), (1, .ref p1.toNat)]) hx hb dX12_endOf_3 rfl hl (by decide) rfl (fun ls hl => ?_)
  have L4 : ∀ (n4 : Nat) (a3_4 a2_4 : Int) (H : Heap) (locs : List Loc) (ls : Array Slot), (0 ≤ a3_4 ∧ a3_4 ≤ 2147483647) → (a2_4 < 0 ∨ ok L K a2_4 0) → (0 < (n4 : Int) ∧ (v p0 7) - a3_4 + 1 < (n4 : Int)) → va_P (dC, dI) vwCl (xG L cid K N v) H → va_S A s.heap H locs → lv_has ls 4 [(3, .int (iI a3_4)), (2, rv a2_4), (0, .ref p0.toNat), (1, .ref p1.toNat)] → W p l e ({ frames := 1, cells := 0, slots := 0, locals := 21 }) s m ([.ref p0.toNat, .ref p1.toNat] : List Value).toArray below meth c H locs 0 0 Q (F0 m 4 ls []) := by
    intro n4
    induction n4 with
    | zero =>
      intro a3_4 a2_4 H locs ls h_1 h_2 hm4 hP hS hl
      exfalso; omega
    | succ n4 ih4 =>
      intro a3_4 a2_4 H locs ls h_3 h_4 hm4 hP hS hl
      refine lv_iload_n hx hb dX12_endOf_4 rfl (lv_at hl 0 rfl) ?_
      refine lv_aload_n hx hb dX12_endOf_5 rfl (lv_at hl 2 rfl) ?_
      have h_5 : 0 ≤ v p0 7 ∧ v p0 7 ≤ 60 := xf_12_7 hI q0
      refine gx_RX12_203 (y := v p0 7) hx hb hj hown hK hP q0 rfl dX12_endOf_6 ?_
      refine xr_icmp_gt (tgt := 41) hx hb dX12_endOf_9 (by decide) (by omega) (by omega) (fun h_6 => ?_) (fun h_6 => ?_)
      · refine lv_null hx hb dX12_endOf_41 ?_
        refine jt_q (rv (-1)) rv_nul ?_
        rw [← hQ]
        exact W.aret (v := rv (-1)) hx hb hr (Or.inl ⟨_, rfl⟩) (rv_or (-1)) (fun t ht hW => ⟨⟨opt (-1), (), rfl, ⟨-1, rfl, (Or.inl (by decide))⟩, trivial⟩, hS.F ht⟩) hS.2.2 dX12_endOf_42
      · refine xq_aload_n hx hb dX12_endOf_12 rfl (lv_at hl 1 rfl) ?_
        refine xq_ifnull (tgt := 41) hx hb dX12_endOf_13 (by decide) (fun h_7 => ?_) (fun h_7 => ?_)
        · refine lv_null hx hb dX12_endOf_41 ?_
          refine jt_q (rv (-1)) rv_nul ?_
          rw [← hQ]
          exact W.aret (v := rv (-1)) hx hb hr (Or.inl ⟨_, rfl⟩) (rv_or (-1)) (fun t ht hW => ⟨⟨opt (-1), (), rfl, ⟨-1, rfl, (Or.inl (by decide))⟩, trivial⟩, hS.F ht⟩) hS.2.2 dX12_endOf_42
        · have h_8 : ok L K a2_4 0 := h_4.resolve_left (by omega)
          refine xq_aload_n hx hb dX12_endOf_16 rfl (lv_at hl 1 rfl) ?_
          refine jt_q (.ref a2_4.toNat) (rv_ref (h_8).1) ?_
          have h_9 : (-2147483648) ≤ v a2_4 1 ∧ v a2_4 1 ≤ 2147483647 := xf_0_1 hI h_8
          refine gx_RX12_240 (y := v a2_4 1) hx hb hj hown hK hP h_8 rfl dX12_endOf_17 ?_
          refine lv_iconst (v := iI 1) hx hb dX12_endOf_20 rfl ?_
          refine xr_icmp_eq (tgt := 26) hx hb dX12_endOf_21 (by decide) (by omega) (by omega) (fun h_10 => ?_) (fun h_10 => ?_)
          · refine lv_aload_n hx hb dX12_endOf_26 rfl (lv_at hl 2 rfl) ?_
            refine xq_aload_n hx hb dX12_endOf_27 rfl (lv_at hl 1 rfl) ?_
            refine jt_q (.ref a2_4.toNat) (rv_ref (h_8).1) ?_
            have h_11 : (-2147483648) ≤ v a2_4 10 ∧ v a2_4 10 ≤ 2147483647 := xf_0_10 hI h_8
            refine gx_RX12_193 (y := v a2_4 10) hx hb hj hown hK hP h_8 rfl dX12_endOf_28 ?_
            refine jc_q (va_runV (As := [.int (iI (v a2_4 10))]) (rest := []) ⟨hx, hb, hml, hown, hts⟩ (sX12_entryAt l dC dI _ L cid K N tW sK sV v p0 (v a2_4 10) hI q0 (by omega)) (cwV 1 hts (jgoodV m_870 m_871 m_872 m_873 m_874) rfl rfl rfl (by decide +kernel) ⟨(Nat.le_of_ble_eq_true rfl), (Nat.le_of_ble_eq_true rfl)⟩) ⟨xP_blind, xrecv hK hP q0 rfl rfl, fun U hU hW => ⟨rfl, xP_of hU hW hP hK hDw hX hS hAw hAA⟩⟩ rfl rfl hl.1 rfl (lv_room (Nat.le_of_ble_eq_true rfl)) dX12_endOf_31 ⟨(Nat.le_of_ble_eq_true rfl), (Nat.le_of_ble_eq_true rfl)⟩) hP hS hA (fun r_12 H locs w_13 hP hS => ?_)
            obtain ⟨z_14, rfl, h_15⟩ := w_13
            refine jt_q (rv z_14) rfl ?_
            refine xq_astore_n (i := 2) (lv' := [(2, rv z_14), (3, .int (iI a3_4)), (0, .ref p0.toNat), (1, .ref p1.toNat)]) hx hb dX12_endOf_34 rfl hl (by decide) rfl (fun ls hl => ?_)
            refine lv_iinc (v := iI (a3_4 + 1)) (lv' := [(3, .int (iI (a3_4 + 1))), (2, rv z_14), (0, .ref p0.toNat), (1, .ref p1.toNat)]) hx hb dX12_endOf_35 hl (k := 1) rfl (iI_add _ _) (by decide) (by simp [rv_cat]) (fun ls hl => ?_)
            refine lv_goto (tgt := 4) hx hb dX12_endOf_38 (by decide) ?_
            exact ih4 (a3_4 + 1) z_14 H locs ls (by omega) h_15 (by omega) hP hS hl
          · refine xq_aload_n hx hb dX12_endOf_24 rfl (lv_at hl 1 rfl) ?_
            refine jt_q (.ref a2_4.toNat) (rv_ref (h_8).1) ?_
            rw [← hQ]
            refine jt_q (rv a2_4) (rv_ref (h_8).1).symm ?_
            exact W.aret (v := rv a2_4) hx hb hr (Or.inl ⟨_, rfl⟩) (rv_or a2_4) (fun t ht hW => ⟨⟨opt a2_4, (), rfl, ⟨a2_4, rfl, (Or.inr h_8)⟩, trivial⟩, hS.F ht⟩) hS.2.2 dX12_endOf_25
  exact L4 ((((v p0 7) - 0 + 1 : Int)).toNat + 1) 0 p1 H locs ls (by omega) (Or.inr q1) (by omega) hP hS (by rw [rv_ref (q1).1]; exact hl)
set_option maxHeartbeats 2000000 in
set_option maxRecDepth 100000 in
theorem sX12_isBrokenOnTheWay (l : Launch) (dC : Nat → ClassId) (dI : Nat → Nat → Nat) (sz : Nat) (L : List Nat) (cid : Nat → ClassId) (K : Int → Nat) (N : Int → Int) (tW : Nat) (sK sV : Nat → Nat) (v : Int → Int → Int) (p0 : Int) (p1 : Int) (hI : xI L K N v) (q0 : ok L K p0 12) (q1 : ok L K p1 0) : Met l yX12_isBrokenOnTheWay (jk yX12_isBrokenOnTheWay cX12_isBrokenOnTheWay 4 (some .boolean)) ({ frames := 3, cells := 0, slots := 0, locals := 63 }) (va_Pc [.ref p0.toNat, .ref p1.toNat] (xP (dC, dI) (xG L cid K N v) (xT cid) tW sK sV sz)) (va_Qi (fun (r : Int32) (_ : Unit) => ∃ z : Int, r = iI z ∧ (0 ≤ z ∧ z ≤ 1)) (fun _ _ => True) (va_A [] sz)) 0 0 (va_A [] sz) := by
  refine Met.ofW (cc := cX12_isBrokenOnTheWay) (maxL := 4) (ret := (some .boolean)) (by decide) rfl ?_
  intro p e s m args below meth c s₁ B hml hv
  obtain ⟨rfl, ⟨hsz, hP, hK, hD0⟩, hX⟩ := hv
  have hx := B.exec
  have hb := B.bytes
  have hr := B.returns
  have hts := atoms_spec (ws := (jk yX12_isBrokenOnTheWay cX12_isBrokenOnTheWay 4 (some .boolean))) B.pre
  have hj : ∀ w ∈ jw, w.before ([.ref p0.toNat, .ref p1.toNat] : List Value).toArray s = true := fun w h => hts w (jm h)
  have hown : s.vm.findClass RX12 = some m.cls := findClass_of_methodNamed B.named
  subst hsz
  have hDw := hD0.self (sz := s.heap.size)
  have hAA : ∀ q : Nat, s.heap.size ≤ q → va_A (xG L cid K N v) s.heap.size q := fun q h => Or.inr h
  have hAw : ∀ q, va_A [] s.heap.size q → va_A (xG L cid K N v) s.heap.size q := ja_nil va_S.rf hAA
  generalize hAe : (va_A [] s.heap.size) = A at hAw ⊢
  have hA : ∀ q : Nat, s.heap.size ≤ q → A q := fun q h => by rw [← hAe]; exact Or.inr h
  have hS : va_S A s.heap s.heap [] := va_S.rf
  have hXa := hX.nar hAw
  have hP : va_P (dC, dI) vwCl (xG L cid K N v) s.heap := hP
  have hl := lv_entry ([.ref p0.toNat, .ref p1.toNat]) (n := 4) (Nat.le_of_ble_eq_true rfl)
  rw [lg_entry_eq]
  generalize (lg_sl ([.ref p0.toNat, .ref p1.toNat]) ++ List.replicate (4 - (lg_sl ([.ref p0.toNat, .ref p1.toNat])).length) Slot.unset).toArray = ls at hl ⊢
  have hl : lv_has ls 4 [(0, .ref p0.toNat), (1, .ref p1.toNat)] := hl
  generalize hQ : MQ below (va_Qi (fun (r : Int32) (_ : Unit) => ∃ z : Int, r = iI z ∧ (0 ≤ z ∧ z ≤ 1)) (fun _ _ => True) A) ([.ref p0.toNat, .ref p1.toNat] : List Value).toArray s 0 0 A = Q
  suffices ST : ∀ (H : Heap) (locs : List Loc), va_P (dC, dI) vwCl (xG L cid K N v) H → va_S A s.heap H locs → W p l e ({ frames := 3, cells := 0, slots := 0, locals := 63 }) s m ([.ref p0.toNat, .ref p1.toNat] : List Value).toArray below meth c H locs 0 0 Q (F0 m 0 ls []) from ST _ _ hP hS
  clear hP hS
  intro H locs hP hS
  refine lv_aload_n hx hb dX12_isBrokenOnTheWay_0 rfl (lv_at hl 1 rfl) ?_
  refine lv_astore_n (i := 2) (lv' := [(2, .ref p1.toNat), (0, .ref p0.toNat), (1, .ref p1.toNat)]) hx hb dX12_isBrokenOnTheWay_1 rfl hl (by decide) rfl (fun ls hl => ?_)
  refine lv_iconst (v := iI 0) hx hb dX12_isBrokenOnTheWay_2 rfl ?_
  refine lv_istore_n (i := 3) (lv' := [(3, .int (iI 0)), (2, .ref p1.toNat), (0, .ref p0.toNat), (1, .ref p1.toNat)]) hx hb dX12_isBrokenOnTheWay_3 rfl hl (by decide) rfl (fun ls hl => ?_)
  have L4 : ∀ (n4 : Nat) (a3_4 a2_4 : Int) (H : Heap) (locs : List Loc) (ls : Array Slot), (0 ≤ a3_4 ∧ a3_4 ≤ 2147483647) → (a2_4 < 0 ∨ ok L K a2_4 0) → (0 < (n4 : Int) ∧ (v p0 7) - a3_4 + 1 < (n4 : Int)) → va_P (dC, dI) vwCl (xG L cid K N v) H → va_S A s.heap H locs → lv_has ls 4 [(3, .int (iI a3_4)), (2, rv a2_4), (0, .ref p0.toNat), (1, .ref p1.toNat)] → W p l e ({ frames := 3, cells := 0, slots := 0, locals := 63 }) s m ([.ref p0.toNat, .ref p1.toNat] : List Value).toArray below meth c H locs 0 0 Q (F0 m 4 ls []) := by
    intro n4
    induction n4 with
    | zero =>
      intro a3_4 a2_4 H locs ls h_1 h_2 hm4 hP hS hl
      exfalso; omega
    | succ n4 ih4 =>
      intro a3_4 a2_4 H locs ls h_3 h_4 hm4 hP hS hl
      refine lv_iload_n hx hb dX12_isBrokenOnTheWay_4 rfl (lv_at hl 0 rfl) ?_
      refine lv_aload_n hx hb dX12_isBrokenOnTheWay_5 rfl (lv_at hl 2 rfl) ?_
      have h_5 : 0 ≤ v p0 7 ∧ v p0 7 ≤ 60 := xf_12_7 hI q0
      refine gx_RX12_203 (y := v p0 7) hx hb hj hown hK hP q0 rfl dX12_isBrokenOnTheWay_6 ?_
      refine xr_icmp_gt (tgt := 49) hx hb dX12_isBrokenOnTheWay_9 (by decide) (by omega) (by omega) (fun h_6 => ?_) (fun h_6 => ?_)
      · refine lv_iconst (v := iI 0) hx hb dX12_isBrokenOnTheWay_49 rfl ?_
        rw [← hQ]
        exact W.zret (v := iI 0) (ty := .boolean) hx hb hr (nb_bool (by omega) (by omega)) (fun t ht hW => ⟨⟨iI 0, (), rfl, ⟨0, rfl, by omega⟩, trivial⟩, hS.F ht⟩) hS.2.2 dX12_isBrokenOnTheWay_50
      · refine xq_aload_n hx hb dX12_isBrokenOnTheWay_12 rfl (lv_at hl 1 rfl) ?_
        refine xq_ifnull (tgt := 49) hx hb dX12_isBrokenOnTheWay_13 (by decide) (fun h_7 => ?_) (fun h_7 => ?_)
        · refine lv_iconst (v := iI 0) hx hb dX12_isBrokenOnTheWay_49 rfl ?_
          rw [← hQ]
          exact W.zret (v := iI 0) (ty := .boolean) hx hb hr (nb_bool (by omega) (by omega)) (fun t ht hW => ⟨⟨iI 0, (), rfl, ⟨0, rfl, by omega⟩, trivial⟩, hS.F ht⟩) hS.2.2 dX12_isBrokenOnTheWay_50
        · have h_8 : ok L K a2_4 0 := h_4.resolve_left (by omega)
          refine xq_aload_n hx hb dX12_isBrokenOnTheWay_16 rfl (lv_at hl 1 rfl) ?_
          refine jt_q (.ref a2_4.toNat) (rv_ref (h_8).1) ?_
          have h_9 : (-2147483648) ≤ v a2_4 1 ∧ v a2_4 1 ≤ 2147483647 := xf_0_1 hI h_8
          refine gx_RX12_240 (y := v a2_4 1) hx hb hj hown hK hP h_8 rfl dX12_isBrokenOnTheWay_17 ?_
          refine lv_iconst (v := iI 1) hx hb dX12_isBrokenOnTheWay_20 rfl ?_
          refine xr_icmp_ne (tgt := 49) hx hb dX12_isBrokenOnTheWay_21 (by decide) (by omega) (by omega) (fun h_10 => ?_) (fun h_10 => ?_)
          · refine lv_iconst (v := iI 0) hx hb dX12_isBrokenOnTheWay_49 rfl ?_
            rw [← hQ]
            exact W.zret (v := iI 0) (ty := .boolean) hx hb hr (nb_bool (by omega) (by omega)) (fun t ht hW => ⟨⟨iI 0, (), rfl, ⟨0, rfl, by omega⟩, trivial⟩, hS.F ht⟩) hS.2.2 dX12_isBrokenOnTheWay_50
          · refine lv_aload_n hx hb dX12_isBrokenOnTheWay_24 rfl (lv_at hl 2 rfl) ?_
            refine xq_aload_n hx hb dX12_isBrokenOnTheWay_25 rfl (lv_at hl 1 rfl) ?_
            refine jt_q (.ref a2_4.toNat) (rv_ref (h_8).1) ?_
            refine jc_i (va_runV (As := [.ref a2_4.toNat]) (rest := []) ⟨hx, hb, hml, hown, hts⟩ (sX12_isAway l dC dI _ L cid K N tW sK sV v p0 a2_4 hI q0 h_8) (cwV 1 hts (jgoodV m_1158 m_1159 m_1160 m_873 m_1161) rfl rfl rfl (by decide +kernel) ⟨(Nat.le_of_ble_eq_true rfl), (Nat.le_of_ble_eq_true rfl)⟩) ⟨xP_blind, xrecv hK hP q0 rfl rfl, fun U hU hW => ⟨rfl, xP_of hU hW hP hK hDw hX hS hAw hAA⟩⟩ rfl rfl hl.1 rfl (lv_room (Nat.le_of_ble_eq_true rfl)) dX12_isBrokenOnTheWay_26 ⟨(Nat.le_of_ble_eq_true rfl), (Nat.le_of_ble_eq_true rfl)⟩) hP hS hA (fun r_11 H locs w_12 hP hS => ?_)
            obtain ⟨z_13, rfl, h_14⟩ := w_12
            refine xr_if_eq (tgt := 34) hx hb dX12_isBrokenOnTheWay_29 (by decide) (by omega) (fun h_15 => ?_) (fun h_15 => ?_)
            · refine lv_aload_n hx hb dX12_isBrokenOnTheWay_34 rfl (lv_at hl 2 rfl) ?_
              refine xq_aload_n hx hb dX12_isBrokenOnTheWay_35 rfl (lv_at hl 1 rfl) ?_
              refine jt_q (.ref a2_4.toNat) (rv_ref (h_8).1) ?_
              have h_16 : (-2147483648) ≤ v a2_4 10 ∧ v a2_4 10 ≤ 2147483647 := xf_0_10 hI h_8
              refine gx_RX12_193 (y := v a2_4 10) hx hb hj hown hK hP h_8 rfl dX12_isBrokenOnTheWay_36 ?_
              refine jc_q (va_runV (As := [.int (iI (v a2_4 10))]) (rest := []) ⟨hx, hb, hml, hown, hts⟩ (sX12_entryAt l dC dI _ L cid K N tW sK sV v p0 (v a2_4 10) hI q0 (by omega)) (cwV 1 hts (jgoodV m_870 m_871 m_872 m_873 m_874) rfl rfl rfl (by decide +kernel) ⟨(Nat.le_of_ble_eq_true rfl), (Nat.le_of_ble_eq_true rfl)⟩) ⟨xP_blind, xrecv hK hP q0 rfl rfl, fun U hU hW => ⟨rfl, xP_of hU hW hP hK hDw hX hS hAw hAA⟩⟩ rfl rfl hl.1 rfl (lv_room (Nat.le_of_ble_eq_true rfl)) dX12_isBrokenOnTheWay_39 ⟨(Nat.le_of_ble_eq_true rfl), (Nat.le_of_ble_eq_true rfl)⟩) hP hS hA (fun r_17 H locs w_18 hP hS => ?_)
              obtain ⟨z_19, rfl, h_20⟩ := w_18
              refine jt_q (rv z_19) rfl ?_
              refine xq_astore_n (i := 2) (lv' := [(2, rv z_19), (3, .int (iI a3_4)), (0, .ref p0.toNat), (1, .ref p1.toNat)]) hx hb dX12_isBrokenOnTheWay_42 rfl hl (by decide) rfl (fun ls hl => ?_)
              refine lv_iinc (v := iI (a3_4 + 1)) (lv' := [(3, .int (iI (a3_4 + 1))), (2, rv z_19), (0, .ref p0.toNat), (1, .ref p1.toNat)]) hx hb dX12_isBrokenOnTheWay_43 hl (k := 1) rfl (iI_add _ _) (by decide) (by simp [rv_cat]) (fun ls hl => ?_)
              refine lv_goto (tgt := 4) hx hb dX12_isBrokenOnTheWay_46 (by decide) ?_
              exact ih4 (a3_4 + 1) z_19 H locs ls (by omega) h_20 (by omega) hP hS hl
            · refine lv_iconst (v := iI 1) hx hb dX12_isBrokenOnTheWay_32 rfl ?_
              rw [← hQ]
              exact W.zret (v := iI 1) (ty := .boolean) hx hb hr (nb_bool (by omega) (by omega)) (fun t ht hW => ⟨⟨iI 1, (), rfl, ⟨1, rfl, by omega⟩, trivial⟩, hS.F ht⟩) hS.2.2 dX12_isBrokenOnTheWay_33
  exact L4 ((((v p0 7) - 0 + 1 : Int)).toNat + 1) 0 p1 H locs ls (by omega) (Or.inr q1) (by omega) hP hS (by rw [rv_ref (q1).1]; exact hl)
set_option maxHeartbeats 2000000 in
set_option maxRecDepth 100000 in
theorem sX12_promise (l : Launch) (dC : Nat → ClassId) (dI : Nat → Nat → Nat) (sz : Nat) (L : List Nat) (cid : Nat → ClassId) (K : Int → Nat) (N : Int → Int) (tW : Nat) (sK sV : Nat → Nat) (v : Int → Int → Int) (p0 : Int) (p1 : Int) (hI : xI L K N v) (q0 : ok L K p0 12) (q1 : rg p1) : Met l yX12_promise (jk yX12_promise cX12_promise 4 (some .int)) ({ frames := 4, cells := 0, slots := 0, locals := 86 }) (va_Pc [.ref p0.toNat, .int (iI p1)] (xP (dC, dI) (xG L cid K N v) (xT cid) tW sK sV sz)) (va_Qi (fun (r : Int32) (_ : Unit) => ∃ z : Int, r = iI z ∧ (rg z)) (fun _ _ => True) (va_A [] sz)) 0 0 (va_A [] sz) := by
  refine Met.ofW (cc := cX12_promise) (maxL := 4) (ret := (some .int)) (by decide) rfl ?_
  intro p e s m args below meth c s₁ B hml hv
  obtain ⟨rfl, ⟨hsz, hP, hK, hD0⟩, hX⟩ := hv
  have hx := B.exec
  have hb := B.bytes
  have hr := B.returns
  have hts := atoms_spec (ws := (jk yX12_promise cX12_promise 4 (some .int))) B.pre
  have hj : ∀ w ∈ jw, w.before ([.ref p0.toNat, .int (iI p1)] : List Value).toArray s = true := fun w h => hts w (jm h)
  have hown : s.vm.findClass RX12 = some m.cls := findClass_of_methodNamed B.named
  subst hsz
  have hDw := hD0.self (sz := s.heap.size)
  have hAA : ∀ q : Nat, s.heap.size ≤ q → va_A (xG L cid K N v) s.heap.size q := fun q h => Or.inr h
  have hAw : ∀ q, va_A [] s.heap.size q → va_A (xG L cid K N v) s.heap.size q := ja_nil va_S.rf hAA
  generalize hAe : (va_A [] s.heap.size) = A at hAw ⊢
  have hA : ∀ q : Nat, s.heap.size ≤ q → A q := fun q h => by rw [← hAe]; exact Or.inr h
  have hS : va_S A s.heap s.heap [] := va_S.rf
  have hXa := hX.nar hAw
  have hP : va_P (dC, dI) vwCl (xG L cid K N v) s.heap := hP
  have hl := lv_entry ([.ref p0.toNat, .int (iI p1)]) (n := 4) (Nat.le_of_ble_eq_true rfl)
  rw [lg_entry_eq]
  generalize (lg_sl ([.ref p0.toNat, .int (iI p1)]) ++ List.replicate (4 - (lg_sl ([.ref p0.toNat, .int (iI p1)])).length) Slot.unset).toArray = ls at hl ⊢
  have hl : lv_has ls 4 [(0, .ref p0.toNat), (1, .int (iI p1))] := hl
  generalize hQ : MQ below (va_Qi (fun (r : Int32) (_ : Unit) => ∃ z : Int, r = iI z ∧ (rg z)) (fun _ _ => True) A) ([.ref p0.toNat, .int (iI p1)] : List Value).toArray s 0 0 A = Q
  suffices ST : ∀ (H : Heap) (locs : List Loc), va_P (dC, dI) vwCl (xG L cid K N v) H → va_S A s.heap H locs → W p l e ({ frames := 4, cells := 0, slots := 0, locals := 86 }) s m ([.ref p0.toNat, .int (iI p1)] : List Value).toArray below meth c H locs 0 0 Q (F0 m 0 ls []) from ST _ _ hP hS
  clear hP hS
  intro H locs hP hS
  refine lv_aload_n hx hb dX12_promise_0 rfl (lv_at hl 0 rfl) ?_
  refine lv_iload_n hx hb dX12_promise_1 rfl (lv_at hl 1 rfl) ?_
  refine lv_iconst (v := iI 1) hx hb dX12_promise_2 rfl ?_
  refine jc_q (va_runV (As := [.int (iI p1), .int (iI 1)]) (rest := []) ⟨hx, hb, hml, hown, hts⟩ (sX12_entryOfKind l dC dI _ L cid K N tW sK sV v p0 p1 1 hI q0 (by omega) (by omega)) (cwV 2 hts (jgoodV m_1027 m_1028 m_1029 m_873 m_1030) rfl rfl rfl (by decide +kernel) ⟨(Nat.le_of_ble_eq_true rfl), (Nat.le_of_ble_eq_true rfl)⟩) ⟨xP_blind, xrecv hK hP q0 rfl rfl, fun U hU hW => ⟨rfl, xP_of hU hW hP hK hDw hX hS hAw hAA⟩⟩ rfl rfl hl.1 rfl (lv_room (Nat.le_of_ble_eq_true rfl)) dX12_promise_3 ⟨(Nat.le_of_ble_eq_true rfl), (Nat.le_of_ble_eq_true rfl)⟩) hP hS hA (fun r_1 H locs w_2 hP hS => ?_)
  obtain ⟨z_3, rfl, h_4⟩ := w_2
  refine jt_q (rv z_3) rfl ?_
  refine xq_astore_n (i := 2) (lv' := [(2, rv z_3), (0, .ref p0.toNat), (1, .int (iI p1))]) hx hb dX12_promise_6 rfl hl (by decide) rfl (fun ls hl => ?_)
  refine xq_aload_n hx hb dX12_promise_7 rfl (lv_at hl 0 rfl) ?_
  refine xq_ifnull (tgt := 19) hx hb dX12_promise_8 (by decide) (fun h_5 => ?_) (fun h_5 => ?_)
  · refine lv_iconst (v := iI (-1)) hx hb dX12_promise_19 rfl ?_
    rw [← hQ]
    exact W.iret (v := iI (-1)) hx hb hr (fun t ht hW => ⟨⟨iI (-1), (), rfl, ⟨(-1), rfl, by omega⟩, trivial⟩, hS.F ht⟩) hS.2.2 dX12_promise_20
  · have h_6 : ok L K z_3 0 := h_4.resolve_left (by omega)
    refine lv_aload_n hx hb dX12_promise_11 rfl (lv_at hl 1 rfl) ?_
    refine xq_aload_n hx hb dX12_promise_12 rfl (lv_at hl 0 rfl) ?_
    refine jt_q (.ref z_3.toNat) (rv_ref (h_6).1) ?_
    refine jc_i (va_runV (As := [.ref z_3.toNat]) (rest := []) ⟨hx, hb, hml, hown, hts⟩ (sX12_isAway l dC dI _ L cid K N tW sK sV v p0 z_3 hI q0 h_6) (cwV 1 hts (jgoodV m_1158 m_1159 m_1160 m_873 m_1161) rfl rfl rfl (by decide +kernel) ⟨(Nat.le_of_ble_eq_true rfl), (Nat.le_of_ble_eq_true rfl)⟩) ⟨xP_blind, xrecv hK hP q0 rfl rfl, fun U hU hW => ⟨rfl, xP_of hU hW hP hK hDw hX hS hAw hAA⟩⟩ rfl rfl hl.1 rfl (lv_room (Nat.le_of_ble_eq_true rfl)) dX12_promise_13 ⟨(Nat.le_of_ble_eq_true rfl), (Nat.le_of_ble_eq_true rfl)⟩) hP hS hA (fun r_7 H locs w_8 hP hS => ?_)
    obtain ⟨z_9, rfl, h_10⟩ := w_8
    refine xr_if_eq (tgt := 21) hx hb dX12_promise_16 (by decide) (by omega) (fun h_11 => ?_) (fun h_11 => ?_)
    · refine lv_aload_n hx hb dX12_promise_21 rfl (lv_at hl 1 rfl) ?_
      refine xq_aload_n hx hb dX12_promise_22 rfl (lv_at hl 0 rfl) ?_
      refine jt_q (.ref z_3.toNat) (rv_ref (h_6).1) ?_
      refine jc_q (va_runV (As := [.ref z_3.toNat]) (rest := []) ⟨hx, hb, hml, hown, hts⟩ (sX12_endOf l dC dI _ L cid K N tW sK sV v p0 z_3 hI q0 h_6) (cwV 1 hts (jgoodV m_1162 m_1163 m_1164 m_873 m_1165) rfl rfl rfl (by decide +kernel) ⟨(Nat.le_of_ble_eq_true rfl), (Nat.le_of_ble_eq_true rfl)⟩) ⟨xP_blind, xrecv hK hP q0 rfl rfl, fun U hU hW => ⟨rfl, xP_of hU hW hP hK hDw hX hS hAw hAA⟩⟩ rfl rfl hl.1 rfl (lv_room (Nat.le_of_ble_eq_true rfl)) dX12_promise_23 ⟨(Nat.le_of_ble_eq_true rfl), (Nat.le_of_ble_eq_true rfl)⟩) hP hS hA (fun r_12 H locs w_13 hP hS => ?_)
      obtain ⟨z_14, rfl, h_15⟩ := w_13
      refine jt_q (rv z_14) rfl ?_
      refine xq_astore_n (i := 3) (lv' := [(3, rv z_14), (2, rv z_3), (0, .ref p0.toNat), (1, .int (iI p1))]) hx hb dX12_promise_26 rfl hl (by decide) (by simp [rv_cat]) (fun ls hl => ?_)
      refine xq_aload_n hx hb dX12_promise_27 rfl (lv_at hl 0 rfl) ?_
      refine xq_ifnonnull (tgt := 33) hx hb dX12_promise_28 (by decide) (fun h_16 => ?_) (fun h_16 => ?_)
      · have h_17 : ok L K z_14 0 := h_15.resolve_left (by omega)
        refine lv_aload_n hx hb dX12_promise_33 rfl (lv_at hl 2 rfl) ?_
        refine xq_aload_n hx hb dX12_promise_34 rfl (lv_at hl 0 rfl) ?_
        refine jt_q (.ref z_14.toNat) (rv_ref (h_17).1) ?_
        refine jc_i (va_runV (As := [.ref z_14.toNat]) (rest := []) ⟨hx, hb, hml, hown, hts⟩ (sX12_isAway l dC dI _ L cid K N tW sK sV v p0 z_14 hI q0 h_17) (cwV 1 hts (jgoodV m_1158 m_1159 m_1160 m_873 m_1161) rfl rfl rfl (by decide +kernel) ⟨(Nat.le_of_ble_eq_true rfl), (Nat.le_of_ble_eq_true rfl)⟩) ⟨xP_blind, xrecv hK hP q0 rfl rfl, fun U hU hW => ⟨rfl, xP_of hU hW hP hK hDw hX hS hAw hAA⟩⟩ rfl rfl hl.1 rfl (lv_room (Nat.le_of_ble_eq_true rfl)) dX12_promise_35 ⟨(Nat.le_of_ble_eq_true rfl), (Nat.le_of_ble_eq_true rfl)⟩) hP hS hA (fun r_18 H locs w_19 hP hS => ?_)
        obtain ⟨z_20, rfl, h_21⟩ := w_19
        refine xr_if_ne (tgt := 49) hx hb dX12_promise_38 (by decide) (by omega) (fun h_22 => ?_) (fun h_22 => ?_)
        · refine lv_iconst (v := iI 2) hx hb dX12_promise_49 rfl ?_
          rw [← hQ]
          exact W.iret (v := iI 2) hx hb hr (fun t ht hW => ⟨⟨iI 2, (), rfl, ⟨2, rfl, by omega⟩, trivial⟩, hS.F ht⟩) hS.2.2 dX12_promise_50
        · refine lv_aload_n hx hb dX12_promise_41 rfl (lv_at hl 2 rfl) ?_
          refine xq_aload_n hx hb dX12_promise_42 rfl (lv_at hl 1 rfl) ?_
          refine jt_q (.ref z_3.toNat) (rv_ref (h_6).1) ?_
          refine jc_i (va_runV (As := [.ref z_3.toNat]) (rest := []) ⟨hx, hb, hml, hown, hts⟩ (sX12_isBrokenOnTheWay l dC dI _ L cid K N tW sK sV v p0 z_3 hI q0 h_6) (cwV 1 hts (jgoodV m_1166 m_1167 m_1168 m_873 m_1169) rfl rfl rfl (by decide +kernel) ⟨(Nat.le_of_ble_eq_true rfl), (Nat.le_of_ble_eq_true rfl)⟩) ⟨xP_blind, xrecv hK hP q0 rfl rfl, fun U hU hW => ⟨rfl, xP_of hU hW hP hK hDw hX hS hAw hAA⟩⟩ rfl rfl hl.1 rfl (lv_room (Nat.le_of_ble_eq_true rfl)) dX12_promise_43 ⟨(Nat.le_of_ble_eq_true rfl), (Nat.le_of_ble_eq_true rfl)⟩) hP hS hA (fun r_23 H locs w_24 hP hS => ?_)
          obtain ⟨z_25, rfl, h_26⟩ := w_24
          refine xr_if_eq (tgt := 51) hx hb dX12_promise_46 (by decide) (by omega) (fun h_27 => ?_) (fun h_27 => ?_)
          · refine xq_aload_n hx hb dX12_promise_51 rfl (lv_at hl 0 rfl) ?_
            refine jt_q (.ref z_14.toNat) (rv_ref (h_17).1) ?_
            have h_28 : (-2147483648) ≤ v z_14 12 ∧ v z_14 12 ≤ 2147483647 := xf_0_12 hI h_17
            refine gx_RX12_247 (y := v z_14 12) hx hb hj hown hK hP h_17 rfl dX12_promise_52 ?_
            refine lv_iconst (v := iI (-1)) hx hb dX12_promise_55 rfl ?_
            refine xr_icmp_eq (tgt := 63) hx hb dX12_promise_56 (by decide) (by omega) (by omega) (fun h_29 => ?_) (fun h_29 => ?_)
            · refine lv_iconst (v := iI 1) hx hb dX12_promise_63 rfl ?_
              rw [← hQ]
              exact W.iret (v := iI 1) hx hb hr (fun t ht hW => ⟨⟨iI 1, (), rfl, ⟨1, rfl, by omega⟩, trivial⟩, hS.F ht⟩) hS.2.2 dX12_promise_64
            · refine lv_iconst (v := iI 0) hx hb dX12_promise_59 rfl ?_
              refine lv_goto (tgt := 64) hx hb dX12_promise_60 (by decide) ?_
              rw [← hQ]
              exact W.iret (v := iI 0) hx hb hr (fun t ht hW => ⟨⟨iI 0, (), rfl, ⟨0, rfl, by omega⟩, trivial⟩, hS.F ht⟩) hS.2.2 dX12_promise_64
          · refine lv_iconst (v := iI 2) hx hb dX12_promise_49 rfl ?_
            rw [← hQ]
            exact W.iret (v := iI 2) hx hb hr (fun t ht hW => ⟨⟨iI 2, (), rfl, ⟨2, rfl, by omega⟩, trivial⟩, hS.F ht⟩) hS.2.2 dX12_promise_50
      · refine lv_iconst (v := iI 3) hx hb dX12_promise_31 rfl ?_
        rw [← hQ]
        exact W.iret (v := iI 3) hx hb hr (fun t ht hW => ⟨⟨iI 3, (), rfl, ⟨3, rfl, by omega⟩, trivial⟩, hS.F ht⟩) hS.2.2 dX12_promise_32
    · refine lv_iconst (v := iI (-1)) hx hb dX12_promise_19 rfl ?_
      rw [← hQ]
      exact W.iret (v := iI (-1)) hx hb hr (fun t ht hW => ⟨⟨iI (-1), (), rfl, ⟨(-1), rfl, by omega⟩, trivial⟩, hS.F ht⟩) hS.2.2 dX12_promise_20
set_option maxHeartbeats 2000000 in
set_option maxRecDepth 100000 in
theorem sX12_ends (l : Launch) (dC : Nat → ClassId) (dI : Nat → Nat → Nat) (sz : Nat) (L : List Nat) (cid : Nat → ClassId) (K : Int → Nat) (N : Int → Int) (tW : Nat) (sK sV : Nat → Nat) (v : Int → Int → Int) (p0 : Int) (p1 : Int) (hI : xI L K N v) (q0 : ok L K p0 12) (q1 : rg p1) : Met l yX12_ends (jk yX12_ends cX12_ends 4 (some .int)) ({ frames := 2, cells := 0, slots := 0, locals := 44 }) (va_Pc [.ref p0.toNat, .int (iI p1)] (xP (dC, dI) (xG L cid K N v) (xT cid) tW sK sV sz)) (va_Qi (fun (r : Int32) (_ : Unit) => ∃ z : Int, r = iI z ∧ (rg z)) (fun _ _ => True) (va_A [] sz)) 0 0 (va_A [] sz) := by
  refine Met.ofW (cc := cX12_ends) (maxL := 4) (ret := (some .int)) (by decide) rfl ?_
  intro p e s m args below meth c s₁ B hml hv
  obtain ⟨rfl, ⟨hsz, hP, hK, hD0⟩, hX⟩ := hv
  have hx := B.exec
  have hb := B.bytes
  have hr := B.returns
  have hts := atoms_spec (ws := (jk yX12_ends cX12_ends 4 (some .int))) B.pre
  have hj : ∀ w ∈ jw, w.before ([.ref p0.toNat, .int (iI p1)] : List Value).toArray s = true := fun w h => hts w (jm h)
  have hown : s.vm.findClass RX12 = some m.cls := findClass_of_methodNamed B.named
  subst hsz
  have hDw := hD0.self (sz := s.heap.size)
  have hAA : ∀ q : Nat, s.heap.size ≤ q → va_A (xG L cid K N v) s.heap.size q := fun q h => Or.inr h
  have hAw : ∀ q, va_A [] s.heap.size q → va_A (xG L cid K N v) s.heap.size q := ja_nil va_S.rf hAA
  generalize hAe : (va_A [] s.heap.size) = A at hAw ⊢
  have hA : ∀ q : Nat, s.heap.size ≤ q → A q := fun q h => by rw [← hAe]; exact Or.inr h
  have hS : va_S A s.heap s.heap [] := va_S.rf
  have hXa := hX.nar hAw
  have hP : va_P (dC, dI) vwCl (xG L cid K N v) s.heap := hP
  have hl := lv_entry ([.ref p0.toNat, .int (iI p1)]) (n := 4) (Nat.le_of_ble_eq_true rfl)
  rw [lg_entry_eq]
  generalize (lg_sl ([.ref p0.toNat, .int (iI p1)]) ++ List.replicate (4 - (lg_sl ([.ref p0.toNat, .int (iI p1)])).length) Slot.unset).toArray = ls at hl ⊢
  have hl : lv_has ls 4 [(0, .ref p0.toNat), (1, .int (iI p1))] := hl
  generalize hQ : MQ below (va_Qi (fun (r : Int32) (_ : Unit) => ∃ z : Int, r = iI z ∧ (rg z)) (fun _ _ => True) A) ([.ref p0.toNat, .int (iI p1)] : List Value).toArray s 0 0 A = Q
  suffices ST : ∀ (H : Heap) (locs : List Loc), va_P (dC, dI) vwCl (xG L cid K N v) H → va_S A s.heap H locs → W p l e ({ frames := 2, cells := 0, slots := 0, locals := 44 }) s m ([.ref p0.toNat, .int (iI p1)] : List Value).toArray below meth c H locs 0 0 Q (F0 m 0 ls []) from ST _ _ hP hS
  clear hP hS
  intro H locs hP hS
  refine lv_aload_n hx hb dX12_ends_0 rfl (lv_at hl 0 rfl) ?_
  refine lv_iload_n hx hb dX12_ends_1 rfl (lv_at hl 1 rfl) ?_
  refine lv_iconst (v := iI 1) hx hb dX12_ends_2 rfl ?_
  refine jc_q (va_runV (As := [.int (iI p1), .int (iI 1)]) (rest := []) ⟨hx, hb, hml, hown, hts⟩ (sX12_entryOfKind l dC dI _ L cid K N tW sK sV v p0 p1 1 hI q0 (by omega) (by omega)) (cwV 2 hts (jgoodV m_1027 m_1028 m_1029 m_873 m_1030) rfl rfl rfl (by decide +kernel) ⟨(Nat.le_of_ble_eq_true rfl), (Nat.le_of_ble_eq_true rfl)⟩) ⟨xP_blind, xrecv hK hP q0 rfl rfl, fun U hU hW => ⟨rfl, xP_of hU hW hP hK hDw hX hS hAw hAA⟩⟩ rfl rfl hl.1 rfl (lv_room (Nat.le_of_ble_eq_true rfl)) dX12_ends_3 ⟨(Nat.le_of_ble_eq_true rfl), (Nat.le_of_ble_eq_true rfl)⟩) hP hS hA (fun r_1 H locs w_2 hP hS => ?_)
  obtain ⟨z_3, rfl, h_4⟩ := w_2
  refine jt_q (rv z_3) rfl ?_
  refine xq_astore_n (i := 2) (lv' := [(2, rv z_3), (0, .ref p0.toNat), (1, .int (iI p1))]) hx hb dX12_ends_6 rfl hl (by decide) rfl (fun ls hl => ?_)
  refine xq_aload_n hx hb dX12_ends_7 rfl (lv_at hl 0 rfl) ?_
  have J20 : ∀ (s0_20 : Int) (H : Heap) (locs : List Loc) (ls : Array Slot), (s0_20 < 0 ∨ ok L K s0_20 0) → va_P (dC, dI) vwCl (xG L cid K N v) H → va_S A s.heap H locs → lv_has ls 4 [(2, rv z_3), (0, .ref p0.toNat), (1, .int (iI p1))] → W p l e ({ frames := 2, cells := 0, slots := 0, locals := 44 }) s m ([.ref p0.toNat, .int (iI p1)] : List Value).toArray below meth c H locs 0 0 Q (F0 m 20 ls [rv s0_20]) := by
    intro s0_20 H locs ls h_5 hP hS hl
    refine xq_astore_n (i := 3) (lv' := [(3, rv s0_20), (2, rv z_3), (0, .ref p0.toNat), (1, .int (iI p1))]) hx hb dX12_ends_20 rfl hl (by decide) (by simp [rv_cat]) (fun ls hl => ?_)
    refine xq_aload_n hx hb dX12_ends_21 rfl (lv_at hl 0 rfl) ?_
    refine xq_ifnonnull (tgt := 29) hx hb dX12_ends_22 (by decide) (fun h_6 => ?_) (fun h_6 => ?_)
    · have h_7 : ok L K s0_20 0 := h_5.resolve_left (by omega)
      refine xq_aload_n hx hb dX12_ends_29 rfl (lv_at hl 0 rfl) ?_
      refine jt_q (.ref s0_20.toNat) (rv_ref (h_7).1) ?_
      have h_8 : (-2147483648) ≤ v s0_20 0 ∧ v s0_20 0 ≤ 2147483647 := xf_0_0 hI h_7
      refine gx_RX12_186 (y := v s0_20 0) hx hb hj hown hK hP h_7 rfl dX12_ends_30 ?_
      rw [← hQ]
      exact W.iret (v := iI (v s0_20 0)) hx hb hr (fun t ht hW => ⟨⟨iI (v s0_20 0), (), rfl, ⟨v s0_20 0, rfl, by omega⟩, trivial⟩, hS.F ht⟩) hS.2.2 dX12_ends_33
    · refine lv_iconst (v := iI (-1)) hx hb dX12_ends_25 rfl ?_
      refine lv_goto (tgt := 33) hx hb dX12_ends_26 (by decide) ?_
      rw [← hQ]
      exact W.iret (v := iI (-1)) hx hb hr (fun t ht hW => ⟨⟨iI (-1), (), rfl, ⟨(-1), rfl, by omega⟩, trivial⟩, hS.F ht⟩) hS.2.2 dX12_ends_33
  refine xq_ifnonnull (tgt := 15) hx hb dX12_ends_8 (by decide) (fun h_9 => ?_) (fun h_9 => ?_)
  · have h_10 : ok L K z_3 0 := h_4.resolve_left (by omega)
    refine lv_aload_n hx hb dX12_ends_15 rfl (lv_at hl 1 rfl) ?_
    refine xq_aload_n hx hb dX12_ends_16 rfl (lv_at hl 0 rfl) ?_
    refine jt_q (.ref z_3.toNat) (rv_ref (h_10).1) ?_
    refine jc_q (va_runV (As := [.ref z_3.toNat]) (rest := []) ⟨hx, hb, hml, hown, hts⟩ (sX12_endOf l dC dI _ L cid K N tW sK sV v p0 z_3 hI q0 h_10) (cwV 1 hts (jgoodV m_1162 m_1163 m_1164 m_873 m_1165) rfl rfl rfl (by decide +kernel) ⟨(Nat.le_of_ble_eq_true rfl), (Nat.le_of_ble_eq_true rfl)⟩) ⟨xP_blind, xrecv hK hP q0 rfl rfl, fun U hU hW => ⟨rfl, xP_of hU hW hP hK hDw hX hS hAw hAA⟩⟩ rfl rfl hl.1 rfl (lv_room (Nat.le_of_ble_eq_true rfl)) dX12_ends_17 ⟨(Nat.le_of_ble_eq_true rfl), (Nat.le_of_ble_eq_true rfl)⟩) hP hS hA (fun r_11 H locs w_12 hP hS => ?_)
    obtain ⟨z_13, rfl, h_14⟩ := w_12
    refine jt_q (rv z_13) rfl ?_
    exact J20 z_13 H locs ls h_14 hP hS hl
  · refine lv_null hx hb dX12_ends_11 ?_
    refine jt_q (rv (-1)) rv_nul ?_
    refine lv_goto (tgt := 20) hx hb dX12_ends_12 (by decide) ?_
    exact J20 (-1) H locs ls (Or.inl (by decide)) hP hS hl
set_option maxHeartbeats 2000000 in
set_option maxRecDepth 100000 in
theorem sX12_promised (l : Launch) (dC : Nat → ClassId) (dI : Nat → Nat → Nat) (sz : Nat) (L : List Nat) (cid : Nat → ClassId) (K : Int → Nat) (N : Int → Int) (tW : Nat) (sK sV : Nat → Nat) (v : Int → Int → Int) (p0 : Int) (p1 : Int) (hI : xI L K N v) (q0 : ok L K p0 12) (q1 : rg p1) : Met l yX12_promised (jk yX12_promised cX12_promised 6 (some .int)) ({ frames := 2, cells := 0, slots := 0, locals := 44 }) (va_Pc [.ref p0.toNat, .int (iI p1)] (xP (dC, dI) (xG L cid K N v) (xT cid) tW sK sV sz)) (va_Qi (fun (r : Int32) (_ : Unit) => ∃ z : Int, r = iI z ∧ (rg z)) (fun _ _ => True) (va_A [] sz)) 0 0 (va_A [] sz) := by
  refine Met.ofW (cc := cX12_promised) (maxL := 6) (ret := (some .int)) (by decide) rfl ?_
  intro p e s m args below meth c s₁ B hml hv
  obtain ⟨rfl, ⟨hsz, hP, hK, hD0⟩, hX⟩ := hv
  have hx := B.exec
  have hb := B.bytes
  have hr := B.returns
  have hts := atoms_spec (ws := (jk yX12_promised cX12_promised 6 (some .int))) B.pre
  have hj : ∀ w ∈ jw, w.before ([.ref p0.toNat, .int (iI p1)] : List Value).toArray s = true := fun w h => hts w (jm h)
  have hown : s.vm.findClass RX12 = some m.cls := findClass_of_methodNamed B.named
  subst hsz
  have hDw := hD0.self (sz := s.heap.size)
  have hAA : ∀ q : Nat, s.heap.size ≤ q → va_A (xG L cid K N v) s.heap.size q := fun q h => Or.inr h
  have hAw : ∀ q, va_A [] s.heap.size q → va_A (xG L cid K N v) s.heap.size q := ja_nil va_S.rf hAA
  generalize hAe : (va_A [] s.heap.size) = A at hAw ⊢
  have hA : ∀ q : Nat, s.heap.size ≤ q → A q := fun q h => by rw [← hAe]; exact Or.inr h
  have hS : va_S A s.heap s.heap [] := va_S.rf
  have hXa := hX.nar hAw
  have hP : va_P (dC, dI) vwCl (xG L cid K N v) s.heap := hP
  have hl := lv_entry ([.ref p0.toNat, .int (iI p1)]) (n := 6) (Nat.le_of_ble_eq_true rfl)
  rw [lg_entry_eq]
  generalize (lg_sl ([.ref p0.toNat, .int (iI p1)]) ++ List.replicate (6 - (lg_sl ([.ref p0.toNat, .int (iI p1)])).length) Slot.unset).toArray = ls at hl ⊢
  have hl : lv_has ls 6 [(0, .ref p0.toNat), (1, .int (iI p1))] := hl
  generalize hQ : MQ below (va_Qi (fun (r : Int32) (_ : Unit) => ∃ z : Int, r = iI z ∧ (rg z)) (fun _ _ => True) A) ([.ref p0.toNat, .int (iI p1)] : List Value).toArray s 0 0 A = Q
  suffices ST : ∀ (H : Heap) (locs : List Loc), va_P (dC, dI) vwCl (xG L cid K N v) H → va_S A s.heap H locs → W p l e ({ frames := 2, cells := 0, slots := 0, locals := 44 }) s m ([.ref p0.toNat, .int (iI p1)] : List Value).toArray below meth c H locs 0 0 Q (F0 m 0 ls []) from ST _ _ hP hS
  clear hP hS
  intro H locs hP hS
  refine lv_aload_n hx hb dX12_promised_0 rfl (lv_at hl 0 rfl) ?_
  refine lv_iload_n hx hb dX12_promised_1 rfl (lv_at hl 1 rfl) ?_
  refine jc_q (va_runV (As := [.int (iI p1)]) (rest := []) ⟨hx, hb, hml, hown, hts⟩ (sX12_handAt l dC dI _ L cid K N tW sK sV v p0 p1 hI q0 (by omega)) (cwV 1 hts (jgoodV m_1056 m_1057 m_1058 m_873 m_1059) rfl rfl rfl (by decide +kernel) ⟨(Nat.le_of_ble_eq_true rfl), (Nat.le_of_ble_eq_true rfl)⟩) ⟨xP_blind, xrecv hK hP q0 rfl rfl, fun U hU hW => ⟨rfl, xP_of hU hW hP hK hDw hX hS hAw hAA⟩⟩ rfl rfl hl.1 rfl (lv_room (Nat.le_of_ble_eq_true rfl)) dX12_promised_2 ⟨(Nat.le_of_ble_eq_true rfl), (Nat.le_of_ble_eq_true rfl)⟩) hP hS hA (fun r_1 H locs w_2 hP hS => ?_)
  obtain ⟨z_3, rfl, h_4, h_5⟩ := w_2
  have h_6 : 0 ≤ v p0 11 ∧ v p0 11 ≤ 12 := xf_12_11 hI q0
  have h_7 : ok L K (v p0 10) 38 := xf_12_10 hI q0
  have h_8 : N (v p0 10) = 12 := xn_38 hI h_7
  refine jt_q (rv z_3) rfl ?_
  refine xq_ifnonnull (tgt := 10) hx hb dX12_promised_5 (by decide) (fun h_9 => ?_) (fun h_9 => ?_)
  · have h_10 : ok L K z_3 2 := h_4.resolve_left (by omega)
    refine lv_iconst (v := iI 0) hx hb dX12_promised_10 rfl ?_
    refine lv_istore_n (i := 2) (lv' := [(2, .int (iI 0)), (0, .ref p0.toNat), (1, .int (iI p1))]) hx hb dX12_promised_11 rfl hl (by decide) rfl (fun ls hl => ?_)
    refine lv_iconst (v := iI 0) hx hb dX12_promised_12 rfl ?_
    refine lv_istore_n (i := 3) (lv' := [(3, .int (iI 0)), (2, .int (iI 0)), (0, .ref p0.toNat), (1, .int (iI p1))]) hx hb dX12_promised_13 rfl hl (by decide) rfl (fun ls hl => ?_)
    have L14 : ∀ (n14 : Nat) (a3_14 a2_14 : Int) (H : Heap) (locs : List Loc) (ls : Array Slot), (0 ≤ a3_14 ∧ a3_14 ≤ 2147483647) → ((-2147483648) ≤ a2_14 ∧ a2_14 ≤ 2147483647) → (0 < (n14 : Int) ∧ (v p0 7) - a3_14 < (n14 : Int)) → va_P (dC, dI) vwCl (xG L cid K N v) H → va_S A s.heap H locs → lv_has ls 6 [(3, .int (iI a3_14)), (2, .int (iI a2_14)), (0, .ref p0.toNat), (1, .int (iI p1))] → W p l e ({ frames := 2, cells := 0, slots := 0, locals := 44 }) s m ([.ref p0.toNat, .int (iI p1)] : List Value).toArray below meth c H locs 0 0 Q (F0 m 14 ls []) := by
      intro n14
      induction n14 with
      | zero =>
        intro a3_14 a2_14 H locs ls h_11 h_12 hm14 hP hS hl
        exfalso; omega
      | succ n14 ih14 =>
        intro a3_14 a2_14 H locs ls h_13 h_14 hm14 hP hS hl
        refine lv_iload_n hx hb dX12_promised_14 rfl (lv_at hl 0 rfl) ?_
        refine lv_aload_n hx hb dX12_promised_15 rfl (lv_at hl 2 rfl) ?_
        have h_15 : 0 ≤ v p0 7 ∧ v p0 7 ≤ 60 := xf_12_7 hI q0
        refine gx_RX12_203 (y := v p0 7) hx hb hj hown hK hP q0 rfl dX12_promised_16 ?_
        refine xr_icmp_ge (tgt := 87) hx hb dX12_promised_19 (by decide) (by omega) (by omega) (fun h_16 => ?_) (fun h_16 => ?_)
        · refine lv_iload_n hx hb dX12_promised_87 rfl (lv_at hl 1 rfl) ?_
          rw [← hQ]
          exact W.iret (v := iI a2_14) hx hb hr (fun t ht hW => ⟨⟨iI a2_14, (), rfl, ⟨a2_14, rfl, by omega⟩, trivial⟩, hS.F ht⟩) hS.2.2 dX12_promised_88
        · refine lv_aload_n hx hb dX12_promised_22 rfl (lv_at hl 2 rfl) ?_
          refine lv_iload_n hx hb dX12_promised_23 rfl (lv_at hl 0 rfl) ?_
          refine lv_iconst (v := iI 1) hx hb dX12_promised_24 rfl ?_
          refine jc_q (va_runV (As := [.int (iI a3_14), .int (iI 1)]) (rest := []) ⟨hx, hb, hml, hown, hts⟩ (sX12_entryOfKind l dC dI _ L cid K N tW sK sV v p0 a3_14 1 hI q0 (by omega) (by omega)) (cwV 2 hts (jgoodV m_1027 m_1028 m_1029 m_873 m_1030) rfl rfl rfl (by decide +kernel) ⟨(Nat.le_of_ble_eq_true rfl), (Nat.le_of_ble_eq_true rfl)⟩) ⟨xP_blind, xrecv hK hP q0 rfl rfl, fun U hU hW => ⟨rfl, xP_of hU hW hP hK hDw hX hS hAw hAA⟩⟩ rfl rfl hl.1 rfl (lv_room (Nat.le_of_ble_eq_true rfl)) dX12_promised_25 ⟨(Nat.le_of_ble_eq_true rfl), (Nat.le_of_ble_eq_true rfl)⟩) hP hS hA (fun r_17 H locs w_18 hP hS => ?_)
          obtain ⟨z_19, rfl, h_20⟩ := w_18
          refine jt_q (rv z_19) rfl ?_
          refine xq_astore (i := 4) (lv' := [(4, rv z_19), (3, .int (iI a3_14)), (2, .int (iI a2_14)), (0, .ref p0.toNat), (1, .int (iI p1))]) hx hb dX12_promised_28 hl (by decide) rfl (fun ls hl => ?_)
          refine xq_aload hx hb dX12_promised_30 (lv_at hl 0 rfl) ?_
          have J81 : ∀ (a2_81 : Int) (H : Heap) (locs : List Loc) (ls : Array Slot), ((-2147483648) ≤ a2_81 ∧ a2_81 ≤ 2147483647) → va_P (dC, dI) vwCl (xG L cid K N v) H → va_S A s.heap H locs → lv_has ls 6 [(4, rv z_19), (3, .int (iI a3_14)), (2, .int (iI a2_81)), (0, .ref p0.toNat), (1, .int (iI p1))] → W p l e ({ frames := 2, cells := 0, slots := 0, locals := 44 }) s m ([.ref p0.toNat, .int (iI p1)] : List Value).toArray below meth c H locs 0 0 Q (F0 m 81 ls []) := by
            intro a2_81 H locs ls h_21 hP hS hl
            refine lv_iinc (v := iI (a3_14 + 1)) (lv' := [(3, .int (iI (a3_14 + 1))), (4, rv z_19), (2, .int (iI a2_81)), (0, .ref p0.toNat), (1, .int (iI p1))]) hx hb dX12_promised_81 hl (k := 1) rfl (iI_add _ _) (by decide) rfl (fun ls hl => ?_)
            refine lv_goto (tgt := 14) hx hb dX12_promised_84 (by decide) ?_
            exact ih14 (a3_14 + 1) a2_81 H locs ls (by omega) (by omega) (by omega) hP hS (lv_sub hl [0, 2, 3, 4] rfl)
          refine xq_ifnull (tgt := 81) hx hb dX12_promised_32 (by decide) (fun h_22 => ?_) (fun h_22 => ?_)
          · exact J81 a2_14 H locs ls (by omega) hP hS hl
          · have h_23 : ok L K z_19 0 := h_20.resolve_left (by omega)
            refine lv_aload_n hx hb dX12_promised_35 rfl (lv_at hl 3 rfl) ?_
            refine xq_aload hx hb dX12_promised_36 (lv_at hl 0 rfl) ?_
            refine jt_q (.ref z_19.toNat) (rv_ref (h_23).1) ?_
            refine jc_i (va_runV (As := [.ref z_19.toNat]) (rest := []) ⟨hx, hb, hml, hown, hts⟩ (sX12_isStruck l dC dI _ L cid K N tW sK sV v p0 z_19 hI q0 h_23) (cwV 1 hts (jgoodV m_1060 m_1061 m_1062 m_873 m_1063) rfl rfl rfl (by decide +kernel) ⟨(Nat.le_of_ble_eq_true rfl), (Nat.le_of_ble_eq_true rfl)⟩) ⟨xP_blind, xrecv hK hP q0 rfl rfl, fun U hU hW => ⟨rfl, xP_of hU hW hP hK hDw hX hS hAw hAA⟩⟩ rfl rfl hl.1 rfl (lv_room (Nat.le_of_ble_eq_true rfl)) dX12_promised_38 ⟨(Nat.le_of_ble_eq_true rfl), (Nat.le_of_ble_eq_true rfl)⟩) hP hS hA (fun r_24 H locs w_25 hP hS => ?_)
            obtain ⟨z_26, rfl, h_27⟩ := w_25
            refine xr_if_eq (tgt := 47) hx hb dX12_promised_41 (by decide) (by omega) (fun h_28 => ?_) (fun h_28 => ?_)
            · refine lv_aload_n hx hb dX12_promised_47 rfl (lv_at hl 3 rfl) ?_
              refine xq_aload hx hb dX12_promised_48 (lv_at hl 0 rfl) ?_
              refine jt_q (.ref z_19.toNat) (rv_ref (h_23).1) ?_
              refine jc_q (va_runV (As := [.ref z_19.toNat]) (rest := []) ⟨hx, hb, hml, hown, hts⟩ (sX12_endOf l dC dI _ L cid K N tW sK sV v p0 z_19 hI q0 h_23) (cwV 1 hts (jgoodV m_1162 m_1163 m_1164 m_873 m_1165) rfl rfl rfl (by decide +kernel) ⟨(Nat.le_of_ble_eq_true rfl), (Nat.le_of_ble_eq_true rfl)⟩) ⟨xP_blind, xrecv hK hP q0 rfl rfl, fun U hU hW => ⟨rfl, xP_of hU hW hP hK hDw hX hS hAw hAA⟩⟩ rfl rfl hl.1 rfl (lv_room (Nat.le_of_ble_eq_true rfl)) dX12_promised_50 ⟨(Nat.le_of_ble_eq_true rfl), (Nat.le_of_ble_eq_true rfl)⟩) hP hS hA (fun r_29 H locs w_30 hP hS => ?_)
              obtain ⟨z_31, rfl, h_32⟩ := w_30
              refine jt_q (rv z_31) rfl ?_
              refine xq_astore (i := 5) (lv' := [(5, rv z_31), (4, rv z_19), (3, .int (iI a3_14)), (2, .int (iI a2_14)), (0, .ref p0.toNat), (1, .int (iI p1))]) hx hb dX12_promised_53 hl (by decide) (by simp [rv_cat]) (fun ls hl => ?_)
              refine xq_aload hx hb dX12_promised_55 (lv_at hl 0 rfl) ?_
              refine xq_ifnull (tgt := 81) hx hb dX12_promised_57 (by decide) (fun h_33 => ?_) (fun h_33 => ?_)
              · exact J81 a2_14 H locs ls (by omega) hP hS (lv_sub hl [1, 2, 3, 4, 5] rfl)
              · have h_34 : ok L K z_31 0 := h_32.resolve_left (by omega)
                refine xq_aload hx hb dX12_promised_60 (lv_at hl 0 rfl) ?_
                refine jt_q (.ref z_31.toNat) (rv_ref (h_34).1) ?_
                have h_35 : (-2147483648) ≤ v z_31 14 ∧ v z_31 14 ≤ 2147483647 := xf_0_14 hI h_34
                refine gx_RX12_313 (y := v z_31 14) hx hb hj hown hK hP h_34 rfl dX12_promised_62 ?_
                refine lv_iload_n hx hb dX12_promised_65 rfl (lv_at hl 5 rfl) ?_
                refine xr_icmp_ne (tgt := 81) hx hb dX12_promised_66 (by decide) (by omega) (by omega) (fun h_36 => ?_) (fun h_36 => ?_)
                · exact J81 a2_14 H locs ls (by omega) hP hS (lv_sub hl [1, 2, 3, 4, 5] rfl)
                · refine lv_aload_n hx hb dX12_promised_69 rfl (lv_at hl 4 rfl) ?_
                  refine xq_aload hx hb dX12_promised_70 (lv_at hl 0 rfl) ?_
                  refine jt_q (.ref z_31.toNat) (rv_ref (h_34).1) ?_
                  refine jc_i (va_runV (As := [.ref z_31.toNat]) (rest := []) ⟨hx, hb, hml, hown, hts⟩ (sX12_hangs l dC dI _ L cid K N tW sK sV v p0 z_31 hI q0 h_34) (cwV 1 hts (jgoodV m_1113 m_1114 m_1115 m_873 m_1116) rfl rfl rfl (by decide +kernel) ⟨(Nat.le_of_ble_eq_true rfl), (Nat.le_of_ble_eq_true rfl)⟩) ⟨xP_blind, xrecv hK hP q0 rfl rfl, fun U hU hW => ⟨rfl, xP_of hU hW hP hK hDw hX hS hAw hAA⟩⟩ rfl rfl hl.1 rfl (lv_room (Nat.le_of_ble_eq_true rfl)) dX12_promised_72 ⟨(Nat.le_of_ble_eq_true rfl), (Nat.le_of_ble_eq_true rfl)⟩) hP hS hA (fun r_37 H locs w_38 hP hS => ?_)
                  obtain ⟨z_39, rfl, h_40⟩ := w_38
                  refine xr_if_eq (tgt := 81) hx hb dX12_promised_75 (by decide) (by omega) (fun h_41 => ?_) (fun h_41 => ?_)
                  · exact J81 a2_14 H locs ls (by omega) hP hS (lv_sub hl [1, 2, 3, 4, 5] rfl)
                  · refine lv_iinc (v := iI (a2_14 + 1)) (lv' := [(2, .int (iI (a2_14 + 1))), (5, rv z_31), (4, rv z_19), (3, .int (iI a3_14)), (0, .ref p0.toNat), (1, .int (iI p1))]) hx hb dX12_promised_78 hl (k := 3) rfl (iI_add _ _) (by decide) rfl (fun ls hl => ?_)
                    obtain ⟨z_42, h_43, h_44, e9⟩ := xr_keep (a2_14 + 1)
                    rw [e9] at hl
                    exact J81 z_42 H locs ls (by omega) hP hS (lv_sub hl [2, 3, 0, 4, 5] rfl)
            · refine lv_goto (tgt := 81) hx hb dX12_promised_44 (by decide) ?_
              exact J81 a2_14 H locs ls (by omega) hP hS hl
    exact L14 ((((v p0 7) - 0 : Int)).toNat + 1) 0 0 H locs ls (by omega) (by omega) (by omega) hP hS hl
  · refine lv_iconst (v := iI (-1)) hx hb dX12_promised_8 rfl ?_
    rw [← hQ]
    exact W.iret (v := iI (-1)) hx hb hr (fun t ht hW => ⟨⟨iI (-1), (), rfl, ⟨(-1), rfl, by omega⟩, trivial⟩, hS.F ht⟩) hS.2.2 dX12_promised_9
