set_option maxHeartbeats 2000000 in
set_option maxRecDepth 100000 in
theorem sX12_countOfHand (l : Launch) (dC : Nat → ClassId) (dI : Nat → Nat → Nat) (sz : Nat) (L : List Nat) (cid : Nat → ClassId) (K : Int → Nat) (N : Int → Int) (tW : Nat) (sK sV : Nat → Nat) (v : Int → Int → Int) (p0 : Int) (p1 : Int) (hI : xI L K N v) (q0 : ok L K p0 12) (q1 : rg p1) : Met l yX12_countOfHand (jk yX12_countOfHand cX12_countOfHand 5 (some .int)) ({ frames := 1, cells := 0, slots := 0, locals := 21 }) (va_Pc [.ref p0.toNat, .int (iI p1)] (xP (dC, dI) (xG L cid K N v) (xT cid) tW sK sV sz)) (va_Qi (fun (r : Int32) (_ : Unit) => ∃ z : Int, r = iI z ∧ (rg z)) (fun _ _ => True) (va_A [] sz)) 0 0 (va_A [] sz) := by
  refine Met.ofW (cc := cX12_countOfHand) (maxL := 5) (ret := (some .int)) (by decide) rfl ?_
  intro p e s m args below meth c s₁ B hml hv
  obtain ⟨rfl, ⟨hsz, hP, hK, hD0⟩, hX⟩ := hv
  have hx := B.exec
  have hb := B.bytes
  have hr := B.returns
  have hts := atoms_spec (ws := (jk yX12_countOfHand cX12_countOfHand 5 (some .int))) B.pre
  have hj : ∀ w ∈ jw, w.before ([.ref p0.toNat, .int (iI p1)] : List Value).toArray s = true := fun w h => hts w (jm h)
  have hown : s.vm.findClass RX12 = some m.cls := findClass_of_methodNamed B.named
  subst hsz
  have hDw := hD0.self (sz := s.heap.size)
  have hAA : ∀ q : Nat, s.heap.size ≤ q → va_A (xG L cid K N v) s.heap.size q := fun q h => Or.inr h
  have hAw : ∀ q, va_A [] s.heap.size q → va_A (xG L cid K N v) s.heap.size q := ja_nil va_S.rf hAA
  generalize hAe : (va_A [] s.heap.size) = A at hAw ⊢
  have hA : ∀ q : Nat, s.heap.size ≤ q → A q := fun q h => by rw [← hAe]; exact Or.inr h
  have hS : va_S A s.heap s.heap [] := va_S.rf
  have hXa := hX.nar hAw
  have hP : va_P (dC, dI) vwCl (xG L cid K N v) s.heap := hP
  have hl := lv_entry ([.ref p0.toNat, .int (iI p1)]) (n := 5) (Nat.le_of_ble_eq_true rfl)
  rw [lg_entry_eq]
  generalize (lg_sl ([.ref p0.toNat, .int (iI p1)]) ++ List.replicate (5 - (lg_sl ([.ref p0.toNat, .int (iI p1)])).length) Slot.unset).toArray = ls at hl ⊢
  have hl : lv_has ls 5 [(0, .ref p0.toNat), (1, .int (iI p1))] := hl
  generalize hQ : MQ below (va_Qi (fun (r : Int32) (_ : Unit) => ∃ z : Int, r = iI z ∧ (rg z)) (fun _ _ => True) A) ([.ref p0.toNat, .int (iI p1)] : List Value).toArray s 0 0 A = Q
  suffices ST : ∀ (H : Heap) (locs : List Loc), va_P (dC, dI) vwCl (xG L cid K N v) H → va_S A s.heap H locs → W p l e ({ frames := 1, cells := 0, slots := 0, locals := 21 }) s m ([.ref p0.toNat, .int (iI p1)] : List Value).toArray below meth c H locs 0 0 Q (F0 m 0 ls []) from ST _ _ hP hS
  clear hP hS
  intro H locs hP hS
  refine lv_iload_n hx hb dX12_countOfHand_0 rfl (lv_at hl 1 rfl) ?_
  refine lv_bipush (v := iI 10) hx hb dX12_countOfHand_1 rfl ?_
  have J17 : ∀ (s0_17 : Int) (H : Heap) (locs : List Loc) (ls : Array Slot), (0 ≤ s0_17 ∧ s0_17 ≤ 1) → va_P (dC, dI) vwCl (xG L cid K N v) H → va_S A s.heap H locs → lv_has ls 5 [(0, .ref p0.toNat), (1, .int (iI p1))] → W p l e ({ frames := 1, cells := 0, slots := 0, locals := 21 }) s m ([.ref p0.toNat, .int (iI p1)] : List Value).toArray below meth c H locs 0 0 Q (F0 m 17 ls [.int (iI s0_17)]) := by
    intro s0_17 H locs ls h_1 hP hS hl
    refine lv_istore_n (i := 2) (lv' := [(2, .int (iI s0_17)), (0, .ref p0.toNat), (1, .int (iI p1))]) hx hb dX12_countOfHand_17 rfl hl (by decide) rfl (fun ls hl => ?_)
    refine lv_iload_n hx hb dX12_countOfHand_18 rfl (lv_at hl 2 rfl) ?_
    refine lv_bipush (v := iI 30) hx hb dX12_countOfHand_19 rfl ?_
    have J35 : ∀ (s0_35 : Int) (H : Heap) (locs : List Loc) (ls : Array Slot), (0 ≤ s0_35 ∧ s0_35 ≤ 1) → va_P (dC, dI) vwCl (xG L cid K N v) H → va_S A s.heap H locs → lv_has ls 5 [(2, .int (iI s0_17)), (0, .ref p0.toNat), (1, .int (iI p1))] → W p l e ({ frames := 1, cells := 0, slots := 0, locals := 21 }) s m ([.ref p0.toNat, .int (iI p1)] : List Value).toArray below meth c H locs 0 0 Q (F0 m 35 ls [.int (iI s0_35)]) := by
      intro s0_35 H locs ls h_2 hP hS hl
      refine lv_istore_n (i := 3) (lv' := [(3, .int (iI s0_35)), (2, .int (iI s0_17)), (0, .ref p0.toNat), (1, .int (iI p1))]) hx hb dX12_countOfHand_35 rfl hl (by decide) rfl (fun ls hl => ?_)
      refine lv_iload_n hx hb dX12_countOfHand_36 rfl (lv_at hl 1 rfl) ?_
      have J46 : ∀ (H : Heap) (locs : List Loc) (ls : Array Slot), va_P (dC, dI) vwCl (xG L cid K N v) H → va_S A s.heap H locs → lv_has ls 5 [(3, .int (iI s0_35)), (2, .int (iI s0_17)), (0, .ref p0.toNat), (1, .int (iI p1))] → W p l e ({ frames := 1, cells := 0, slots := 0, locals := 21 }) s m ([.ref p0.toNat, .int (iI p1)] : List Value).toArray below meth c H locs 0 0 Q (F0 m 46 ls []) := by
        intro H locs ls hP hS hl
        refine lv_aload_n hx hb dX12_countOfHand_46 rfl (lv_at hl 2 rfl) ?_
        refine lv_iload_n hx hb dX12_countOfHand_47 rfl (lv_at hl 1 rfl) ?_
        have J62 : ∀ (s0_62 : Int) (H : Heap) (locs : List Loc) (ls : Array Slot), ((-2147483648) ≤ s0_62 ∧ s0_62 ≤ 2147483647) → va_P (dC, dI) vwCl (xG L cid K N v) H → va_S A s.heap H locs → lv_has ls 5 [(3, .int (iI s0_35)), (2, .int (iI s0_17)), (0, .ref p0.toNat), (1, .int (iI p1))] → W p l e ({ frames := 1, cells := 0, slots := 0, locals := 21 }) s m ([.ref p0.toNat, .int (iI p1)] : List Value).toArray below meth c H locs 0 0 Q (F0 m 62 ls [.int (iI s0_62), .ref p0.toNat]) := by
          intro s0_62 H locs ls h_3 hP hS hl
          refine jc_q (va_runV (As := [.int (iI s0_62)]) (rest := []) ⟨hx, hb, hml, hown, hts⟩ (sX12_handAt l dC dI _ L cid K N tW sK sV v p0 s0_62 hI q0 (by omega)) (cwV 1 hts (jgoodV m_1056 m_1057 m_1058 m_873 m_1059) rfl rfl rfl (by decide +kernel) ⟨(Nat.le_of_ble_eq_true rfl), (Nat.le_of_ble_eq_true rfl)⟩) ⟨xP_blind, xrecv hK hP q0 rfl rfl, fun U hU hW => ⟨rfl, xP_of hU hW hP hK hDw hX hS hAw hAA⟩⟩ rfl rfl hl.1 rfl (lv_room (Nat.le_of_ble_eq_true rfl)) dX12_countOfHand_62 ⟨(Nat.le_of_ble_eq_true rfl), (Nat.le_of_ble_eq_true rfl)⟩) hP hS hA (fun r_4 H locs w_5 hP hS => ?_)
          obtain ⟨z_6, rfl, h_7, h_8⟩ := w_5
          have h_9 : 0 ≤ v p0 11 ∧ v p0 11 ≤ 12 := xf_12_11 hI q0
          have h_10 : ok L K (v p0 10) 38 := xf_12_10 hI q0
          have h_11 : N (v p0 10) = 12 := xn_38 hI h_10
          refine jt_q (rv z_6) rfl ?_
          refine xq_astore (i := 4) (lv' := [(4, rv z_6), (3, .int (iI s0_35)), (2, .int (iI s0_17)), (0, .ref p0.toNat), (1, .int (iI p1))]) hx hb dX12_countOfHand_65 hl (by decide) rfl (fun ls hl => ?_)
          refine xq_aload hx hb dX12_countOfHand_67 (lv_at hl 0 rfl) ?_
          refine xq_ifnonnull (tgt := 74) hx hb dX12_countOfHand_69 (by decide) (fun h_12 => ?_) (fun h_12 => ?_)
          · have h_13 : ok L K z_6 2 := h_7.resolve_left (by omega)
            refine lv_iload_n hx hb dX12_countOfHand_74 rfl (lv_at hl 2 rfl) ?_
            refine xr_if_eq (tgt := 86) hx hb dX12_countOfHand_75 (by decide) (by omega) (fun h_14 => ?_) (fun h_14 => ?_)
            · refine xq_aload hx hb dX12_countOfHand_86 (lv_at hl 0 rfl) ?_
              refine jt_q (.ref z_6.toNat) (rv_ref (h_13).1) ?_
              have h_15 : 0 ≤ v z_6 3 ∧ v z_6 3 ≤ 1 := xf_2_3 hI h_13
              refine gx_RX12_300 (y := v z_6 3) hx hb hj hown hK hP h_13 rfl dX12_countOfHand_88 ?_
              refine xr_if_eq (tgt := 98) hx hb dX12_countOfHand_91 (by decide) (by omega) (fun h_16 => ?_) (fun h_16 => ?_)
              · refine lv_iconst (v := iI 0) hx hb dX12_countOfHand_98 rfl ?_
                rw [← hQ]
                exact W.iret (v := iI 0) hx hb hr (fun t ht hW => ⟨⟨iI 0, (), rfl, ⟨0, rfl, by omega⟩, trivial⟩, hS.F ht⟩) hS.2.2 dX12_countOfHand_99
              · refine lv_iconst (v := iI 1) hx hb dX12_countOfHand_94 rfl ?_
                refine lv_goto (tgt := 99) hx hb dX12_countOfHand_95 (by decide) ?_
                rw [← hQ]
                exact W.iret (v := iI 1) hx hb hr (fun t ht hW => ⟨⟨iI 1, (), rfl, ⟨1, rfl, by omega⟩, trivial⟩, hS.F ht⟩) hS.2.2 dX12_countOfHand_99
            · refine xq_aload hx hb dX12_countOfHand_78 (lv_at hl 0 rfl) ?_
              refine jt_q (.ref z_6.toNat) (rv_ref (h_13).1) ?_
              have h_17 : (-2147483648) ≤ v z_6 5 ∧ v z_6 5 ≤ 2147483647 := xf_2_5 hI h_13
              refine gx_RX12_388 (y := v z_6 5) hx hb hj hown hK hP h_13 rfl dX12_countOfHand_80 ?_
              refine lv_goto (tgt := 99) hx hb dX12_countOfHand_83 (by decide) ?_
              rw [← hQ]
              exact W.iret (v := iI (v z_6 5)) hx hb hr (fun t ht hW => ⟨⟨iI (v z_6 5), (), rfl, ⟨v z_6 5, rfl, by omega⟩, trivial⟩, hS.F ht⟩) hS.2.2 dX12_countOfHand_99
          · refine lv_iconst (v := iI (-1)) hx hb dX12_countOfHand_72 rfl ?_
            rw [← hQ]
            exact W.iret (v := iI (-1)) hx hb hr (fun t ht hW => ⟨⟨iI (-1), (), rfl, ⟨(-1), rfl, by omega⟩, trivial⟩, hS.F ht⟩) hS.2.2 dX12_countOfHand_73
        refine xr_if_eq (tgt := 58) hx hb dX12_countOfHand_48 (by decide) (by omega) (fun h_18 => ?_) (fun h_18 => ?_)
        · refine lv_iload_n hx hb dX12_countOfHand_58 rfl (lv_at hl 3 rfl) ?_
          refine lv_bipush (v := iI 30) hx hb dX12_countOfHand_59 rfl ?_
          refine xr_sub hx hb dX12_countOfHand_61 ?_
          refine xr_kept (fun z_19 h_20 h_21 => ?_)
          exact J62 z_19 H locs ls (by omega) hP hS hl
        · refine lv_iload_n hx hb dX12_countOfHand_51 rfl (lv_at hl 3 rfl) ?_
          refine lv_bipush (v := iI 10) hx hb dX12_countOfHand_52 rfl ?_
          refine xr_sub hx hb dX12_countOfHand_54 ?_
          refine xr_kept (fun z_22 h_23 h_24 => ?_)
          refine lv_goto (tgt := 62) hx hb dX12_countOfHand_55 (by decide) ?_
          exact J62 z_22 H locs ls (by omega) hP hS hl
      refine xr_if_ne (tgt := 46) hx hb dX12_countOfHand_37 (by decide) (by omega) (fun h_25 => ?_) (fun h_25 => ?_)
      · exact J46 H locs ls hP hS hl
      · refine lv_iload_n hx hb dX12_countOfHand_40 rfl (lv_at hl 0 rfl) ?_
        refine xr_if_ne (tgt := 46) hx hb dX12_countOfHand_41 (by decide) (by omega) (fun h_26 => ?_) (fun h_26 => ?_)
        · exact J46 H locs ls hP hS hl
        · refine lv_iconst (v := iI (-1)) hx hb dX12_countOfHand_44 rfl ?_
          rw [← hQ]
          exact W.iret (v := iI (-1)) hx hb hr (fun t ht hW => ⟨⟨iI (-1), (), rfl, ⟨(-1), rfl, by omega⟩, trivial⟩, hS.F ht⟩) hS.2.2 dX12_countOfHand_45
    have J34 : ∀ (H : Heap) (locs : List Loc) (ls : Array Slot), va_P (dC, dI) vwCl (xG L cid K N v) H → va_S A s.heap H locs → lv_has ls 5 [(2, .int (iI s0_17)), (0, .ref p0.toNat), (1, .int (iI p1))] → W p l e ({ frames := 1, cells := 0, slots := 0, locals := 21 }) s m ([.ref p0.toNat, .int (iI p1)] : List Value).toArray below meth c H locs 0 0 Q (F0 m 34 ls []) := by
      intro H locs ls hP hS hl
      refine lv_iconst (v := iI 0) hx hb dX12_countOfHand_34 rfl ?_
      exact J35 0 H locs ls (by omega) hP hS hl
    refine xr_icmp_lt (tgt := 34) hx hb dX12_countOfHand_21 (by decide) (by omega) (by omega) (fun h_27 => ?_) (fun h_27 => ?_)
    · exact J34 H locs ls hP hS hl
    · refine lv_iload_n hx hb dX12_countOfHand_24 rfl (lv_at hl 2 rfl) ?_
      refine lv_bipush (v := iI 42) hx hb dX12_countOfHand_25 rfl ?_
      refine xr_icmp_ge (tgt := 34) hx hb dX12_countOfHand_27 (by decide) (by omega) (by omega) (fun h_28 => ?_) (fun h_28 => ?_)
      · exact J34 H locs ls hP hS hl
      · refine lv_iconst (v := iI 1) hx hb dX12_countOfHand_30 rfl ?_
        refine lv_goto (tgt := 35) hx hb dX12_countOfHand_31 (by decide) ?_
        exact J35 1 H locs ls (by omega) hP hS hl
  have J16 : ∀ (H : Heap) (locs : List Loc) (ls : Array Slot), va_P (dC, dI) vwCl (xG L cid K N v) H → va_S A s.heap H locs → lv_has ls 5 [(0, .ref p0.toNat), (1, .int (iI p1))] → W p l e ({ frames := 1, cells := 0, slots := 0, locals := 21 }) s m ([.ref p0.toNat, .int (iI p1)] : List Value).toArray below meth c H locs 0 0 Q (F0 m 16 ls []) := by
    intro H locs ls hP hS hl
    refine lv_iconst (v := iI 0) hx hb dX12_countOfHand_16 rfl ?_
    exact J17 0 H locs ls (by omega) hP hS hl
  refine xr_icmp_lt (tgt := 16) hx hb dX12_countOfHand_3 (by decide) (by omega) (by omega) (fun h_29 => ?_) (fun h_29 => ?_)
  · exact J16 H locs ls hP hS hl
  · refine lv_iload_n hx hb dX12_countOfHand_6 rfl (lv_at hl 1 rfl) ?_
    refine lv_bipush (v := iI 22) hx hb dX12_countOfHand_7 rfl ?_
    refine xr_icmp_ge (tgt := 16) hx hb dX12_countOfHand_9 (by decide) (by omega) (by omega) (fun h_30 => ?_) (fun h_30 => ?_)
    · exact J16 H locs ls hP hS hl
    · refine lv_iconst (v := iI 1) hx hb dX12_countOfHand_12 rfl ?_
      refine lv_goto (tgt := 17) hx hb dX12_countOfHand_13 (by decide) ?_
      exact J17 1 H locs ls (by omega) hP hS hl
set_option maxHeartbeats 2000000 in
set_option maxRecDepth 100000 in
theorem sX12_count (l : Launch) (dC : Nat → ClassId) (dI : Nat → Nat → Nat) (sz : Nat) (L : List Nat) (cid : Nat → ClassId) (K : Int → Nat) (N : Int → Int) (tW : Nat) (sK sV : Nat → Nat) (v : Int → Int → Int) (p0 : Int) (p1 : Int) (hI : xI L K N v) (q0 : ok L K p0 12) (q1 : rg p1) : Met l yX12_count (jk yX12_count cX12_count 2 (some .int)) ({ frames := 2, cells := 0, slots := 0, locals := 45 }) (va_Pc [.ref p0.toNat, .int (iI p1)] (xP (dC, dI) (xG L cid K N v) (xT cid) tW sK sV sz)) (va_Qi (fun (r : Int32) (_ : Unit) => ∃ z : Int, r = iI z ∧ (rg z)) (fun _ _ => True) (va_A [] sz)) 0 0 (va_A [] sz) := by
  refine Met.ofW (cc := cX12_count) (maxL := 2) (ret := (some .int)) (by decide) rfl ?_
  intro p e s m args below meth c s₁ B hml hv
  obtain ⟨rfl, ⟨hsz, hP, hK, hD0⟩, hX⟩ := hv
  have hx := B.exec
  have hb := B.bytes
  have hr := B.returns
  have hts := atoms_spec (ws := (jk yX12_count cX12_count 2 (some .int))) B.pre
  have hj : ∀ w ∈ jw, w.before ([.ref p0.toNat, .int (iI p1)] : List Value).toArray s = true := fun w h => hts w (jm h)
  have hown : s.vm.findClass RX12 = some m.cls := findClass_of_methodNamed B.named
  subst hsz
  have hDw := hD0.self (sz := s.heap.size)
  have hAA : ∀ q : Nat, s.heap.size ≤ q → va_A (xG L cid K N v) s.heap.size q := fun q h => Or.inr h
  have hAw : ∀ q, va_A [] s.heap.size q → va_A (xG L cid K N v) s.heap.size q := ja_nil va_S.rf hAA
  generalize hAe : (va_A [] s.heap.size) = A at hAw ⊢
  have hA : ∀ q : Nat, s.heap.size ≤ q → A q := fun q h => by rw [← hAe]; exact Or.inr h
  have hS : va_S A s.heap s.heap [] := va_S.rf
  have hXa := hX.nar hAw
  have hP : va_P (dC, dI) vwCl (xG L cid K N v) s.heap := hP
  have hl := lv_entry ([.ref p0.toNat, .int (iI p1)]) (n := 2) (Nat.le_of_ble_eq_true rfl)
  rw [lg_entry_eq]
  generalize (lg_sl ([.ref p0.toNat, .int (iI p1)]) ++ List.replicate (2 - (lg_sl ([.ref p0.toNat, .int (iI p1)])).length) Slot.unset).toArray = ls at hl ⊢
  have hl : lv_has ls 2 [(0, .ref p0.toNat), (1, .int (iI p1))] := hl
  generalize hQ : MQ below (va_Qi (fun (r : Int32) (_ : Unit) => ∃ z : Int, r = iI z ∧ (rg z)) (fun _ _ => True) A) ([.ref p0.toNat, .int (iI p1)] : List Value).toArray s 0 0 A = Q
  suffices ST : ∀ (H : Heap) (locs : List Loc), va_P (dC, dI) vwCl (xG L cid K N v) H → va_S A s.heap H locs → W p l e ({ frames := 2, cells := 0, slots := 0, locals := 45 }) s m ([.ref p0.toNat, .int (iI p1)] : List Value).toArray below meth c H locs 0 0 Q (F0 m 0 ls []) from ST _ _ hP hS
  clear hP hS
  intro H locs hP hS
  refine lv_iload_n hx hb dX12_count_0 rfl (lv_at hl 1 rfl) ?_
  rcases (show (p1 < 0 ∨ 8 < p1) ∨ p1 = 0 ∨ p1 = 1 ∨ p1 = 2 ∨ p1 = 3 ∨ p1 = 4 ∨ p1 = 5 ∨ p1 = 6 ∨ p1 = 7 ∨ p1 = 8 by omega) with h_1 | h_1 | h_1 | h_1 | h_1 | h_1 | h_1 | h_1 | h_1 | h_1
  · refine lv_tableOut (tgt := 106) hx hb dX12_count_1 (by rw [iI_toInt (by omega)]; omega) (by decide) ?_
    refine lv_aload_n hx hb dX12_count_106 rfl (lv_at hl 0 rfl) ?_
    refine lv_iload_n hx hb dX12_count_107 rfl (lv_at hl 1 rfl) ?_
    refine jc_i (va_runV (As := [.int (iI p1)]) (rest := []) ⟨hx, hb, hml, hown, hts⟩ (sX12_countOfHand l dC dI _ L cid K N tW sK sV v p0 p1 hI q0 (by omega)) (cwV 1 hts (jgoodV m_1283 m_1284 m_1285 m_873 m_1286) rfl rfl rfl (by decide +kernel) ⟨(Nat.le_of_ble_eq_true rfl), (Nat.le_of_ble_eq_true rfl)⟩) ⟨xP_blind, xrecv hK hP q0 rfl rfl, fun U hU hW => ⟨rfl, xP_of hU hW hP hK hDw hX hS hAw hAA⟩⟩ rfl rfl hl.1 rfl (lv_room (Nat.le_of_ble_eq_true rfl)) dX12_count_108 ⟨(Nat.le_of_ble_eq_true rfl), (Nat.le_of_ble_eq_true rfl)⟩) hP hS hA (fun r_2 H locs w_3 hP hS => ?_)
    obtain ⟨z_4, rfl, h_5⟩ := w_3
    rw [← hQ]
    exact W.iret (v := iI z_4) hx hb hr (fun t ht hW => ⟨⟨iI z_4, (), rfl, ⟨z_4, rfl, by omega⟩, trivial⟩, hS.F ht⟩) hS.2.2 dX12_count_111
  · refine jtab_in (v := iI 0) (off := 51) (tgt := 52) hx hb dX12_count_1 (by rw [h_1]) (by decide) (by decide) (by decide) (by decide) ?_
    refine lv_aload_n hx hb dX12_count_52 rfl (lv_at hl 0 rfl) ?_
    have h_6 : 0 ≤ v p0 0 ∧ v p0 0 ≤ 2000 := xf_12_0 hI q0
    refine gx_RX12_133 (y := v p0 0) hx hb hj hown hK hP q0 rfl dX12_count_53 ?_
    rw [← hQ]
    exact W.iret (v := iI (v p0 0)) hx hb hr (fun t ht hW => ⟨⟨iI (v p0 0), (), rfl, ⟨v p0 0, rfl, by omega⟩, trivial⟩, hS.F ht⟩) hS.2.2 dX12_count_56
  · refine jtab_in (v := iI 1) (off := 56) (tgt := 57) hx hb dX12_count_1 (by rw [h_1]) (by decide) (by decide) (by decide) (by decide) ?_
    refine lv_aload_n hx hb dX12_count_57 rfl (lv_at hl 0 rfl) ?_
    have h_7 : 0 ≤ v p0 7 ∧ v p0 7 ≤ 60 := xf_12_7 hI q0
    refine gx_RX12_203 (y := v p0 7) hx hb hj hown hK hP q0 rfl dX12_count_58 ?_
    rw [← hQ]
    exact W.iret (v := iI (v p0 7)) hx hb hr (fun t ht hW => ⟨⟨iI (v p0 7), (), rfl, ⟨v p0 7, rfl, by omega⟩, trivial⟩, hS.F ht⟩) hS.2.2 dX12_count_61
  · refine jtab_in (v := iI 2) (off := 61) (tgt := 62) hx hb dX12_count_1 (by rw [h_1]) (by decide) (by decide) (by decide) (by decide) ?_
    refine lv_aload_n hx hb dX12_count_62 rfl (lv_at hl 0 rfl) ?_
    have h_8 : 0 ≤ v p0 11 ∧ v p0 11 ≤ 12 := xf_12_11 hI q0
    refine gx_RX12_292 (y := v p0 11) hx hb hj hown hK hP q0 rfl dX12_count_63 ?_
    rw [← hQ]
    exact W.iret (v := iI (v p0 11)) hx hb hr (fun t ht hW => ⟨⟨iI (v p0 11), (), rfl, ⟨v p0 11, rfl, by omega⟩, trivial⟩, hS.F ht⟩) hS.2.2 dX12_count_66
  · refine jtab_in (v := iI 3) (off := 66) (tgt := 67) hx hb dX12_count_1 (by rw [h_1]) (by decide) (by decide) (by decide) (by decide) ?_
    refine lv_aload_n hx hb dX12_count_67 rfl (lv_at hl 0 rfl) ?_
    have h_9 : 0 ≤ v p0 13 ∧ v p0 13 ≤ 300 := xf_12_13 hI q0
    refine gx_RX12_370 (y := v p0 13) hx hb hj hown hK hP q0 rfl dX12_count_68 ?_
    rw [← hQ]
    exact W.iret (v := iI (v p0 13)) hx hb hr (fun t ht hW => ⟨⟨iI (v p0 13), (), rfl, ⟨v p0 13, rfl, by omega⟩, trivial⟩, hS.F ht⟩) hS.2.2 dX12_count_71
  · refine jtab_in (v := iI 4) (off := 71) (tgt := 72) hx hb dX12_count_1 (by rw [h_1]) (by decide) (by decide) (by decide) (by decide) ?_
    refine lv_aload_n hx hb dX12_count_72 rfl (lv_at hl 0 rfl) ?_
    have h_10 : ok L K (v p0 3) 8 := xf_12_3 hI q0
    refine gx_RX12_19 (y := v p0 3) hx hb hj hown hK hP q0 ((xf_12_3 hI q0).1) rfl dX12_count_73 ?_
    have h_11 : 0 ≤ v (v p0 3) 1 ∧ v (v p0 3) 1 ≤ 12 := xf_8_1 hI h_10
    refine gx_RX12_590 (y := v (v p0 3) 1) hx hb hj hown hK hP h_10 rfl dX12_count_76 ?_
    rw [← hQ]
    exact W.iret (v := iI (v (v p0 3) 1)) hx hb hr (fun t ht hW => ⟨⟨iI (v (v p0 3) 1), (), rfl, ⟨v (v p0 3) 1, rfl, by omega⟩, trivial⟩, hS.F ht⟩) hS.2.2 dX12_count_79
  · refine jtab_in (v := iI 5) (off := 79) (tgt := 80) hx hb dX12_count_1 (by rw [h_1]) (by decide) (by decide) (by decide) (by decide) ?_
    refine lv_aload_n hx hb dX12_count_80 rfl (lv_at hl 0 rfl) ?_
    have h_12 : ok L K (v p0 14) 5 := xf_12_14 hI q0
    refine gx_RX12_66 (y := v p0 14) hx hb hj hown hK hP q0 ((xf_12_14 hI q0).1) rfl dX12_count_81 ?_
    have h_13 : (-2147483648) ≤ v (v p0 14) 11 ∧ v (v p0 14) 11 ≤ 2147483647 := xf_5_11 hI h_12
    refine gx_RX12_593 (y := v (v p0 14) 11) hx hb hj hown hK hP h_12 rfl dX12_count_84 ?_
    rw [← hQ]
    exact W.iret (v := iI (v (v p0 14) 11)) hx hb hr (fun t ht hW => ⟨⟨iI (v (v p0 14) 11), (), rfl, ⟨v (v p0 14) 11, rfl, by omega⟩, trivial⟩, hS.F ht⟩) hS.2.2 dX12_count_87
  · refine jtab_in (v := iI 6) (off := 87) (tgt := 88) hx hb dX12_count_1 (by rw [h_1]) (by decide) (by decide) (by decide) (by decide) ?_
    refine lv_aload_n hx hb dX12_count_88 rfl (lv_at hl 0 rfl) ?_
    have h_14 : (-2147483648) ≤ v p0 1 ∧ v p0 1 ≤ 2147483647 := xf_12_1 hI q0
    refine gx_RX12_158 (y := v p0 1) hx hb hj hown hK hP q0 rfl dX12_count_89 ?_
    rw [← hQ]
    exact W.iret (v := iI (v p0 1)) hx hb hr (fun t ht hW => ⟨⟨iI (v p0 1), (), rfl, ⟨v p0 1, rfl, by omega⟩, trivial⟩, hS.F ht⟩) hS.2.2 dX12_count_92
  · refine jtab_in (v := iI 7) (off := 92) (tgt := 93) hx hb dX12_count_1 (by rw [h_1]) (by decide) (by decide) (by decide) (by decide) ?_
    refine lv_aload_n hx hb dX12_count_93 rfl (lv_at hl 0 rfl) ?_
    have h_15 : ok L K (v p0 2) 7 := xf_12_2 hI q0
    refine gx_RX12_10 (y := v p0 2) hx hb hj hown hK hP q0 ((xf_12_2 hI q0).1) rfl dX12_count_94 ?_
    have h_16 : 0 ≤ v (v p0 2) 1 ∧ v (v p0 2) 1 ≤ 600 := xf_7_1 hI h_15
    refine gx_RX12_103 (y := v (v p0 2) 1) hx hb hj hown hK hP h_15 rfl dX12_count_97 ?_
    rw [← hQ]
    exact W.iret (v := iI (v (v p0 2) 1)) hx hb hr (fun t ht hW => ⟨⟨iI (v (v p0 2) 1), (), rfl, ⟨v (v p0 2) 1, rfl, by omega⟩, trivial⟩, hS.F ht⟩) hS.2.2 dX12_count_100
  · refine jtab_in (v := iI 8) (off := 100) (tgt := 101) hx hb dX12_count_1 (by rw [h_1]) (by decide) (by decide) (by decide) (by decide) ?_
    refine lv_aload_n hx hb dX12_count_101 rfl (lv_at hl 0 rfl) ?_
    refine jc_i (va_runV (As := []) (rest := []) ⟨hx, hb, hml, hown, hts⟩ (sX12_payOfAll l dC dI _ L cid K N tW sK sV v p0 hI q0) (cwV 0 hts (jgoodV m_1287 m_1288 m_1289 m_873 m_1290) rfl rfl rfl (by decide +kernel) ⟨(Nat.le_of_ble_eq_true rfl), (Nat.le_of_ble_eq_true rfl)⟩) ⟨xP_blind, xrecv hK hP q0 rfl rfl, fun U hU hW => ⟨rfl, xP_of hU hW hP hK hDw hX hS hAw hAA⟩⟩ rfl rfl hl.1 rfl (lv_room (Nat.le_of_ble_eq_true rfl)) dX12_count_102 ⟨(Nat.le_of_ble_eq_true rfl), (Nat.le_of_ble_eq_true rfl)⟩) hP hS hA (fun r_17 H locs w_18 hP hS => ?_)
    obtain ⟨z_19, rfl, h_20⟩ := w_18
    rw [← hQ]
    exact W.iret (v := iI z_19) hx hb hr (fun t ht hW => ⟨⟨iI z_19, (), rfl, ⟨z_19, rfl, by omega⟩, trivial⟩, hS.F ht⟩) hS.2.2 dX12_count_105
set_option maxHeartbeats 2000000 in
set_option maxRecDepth 100000 in
theorem sJ7_copyOf_59c91_25_66 (l : Launch) (dC : Nat → ClassId) (dI : Nat → Nat → Nat) (sz : Nat) (L : List Nat) (cid : Nat → ClassId) (K : Int → Nat) (N : Int → Int) (tW : Nat) (sK sV : Nat → Nat) (v : Int → Int → Int) (p1 : Int) (p2 : Int) (hI : xI L K N v) (q1 : ok L K p1 25) (q2 : rg p2) (k1 : 0 ≤ p2 ∧ p2 ≤ 600) : Met l yJ7_copyOf_59c91 (jk yJ7_copyOf_59c91 cJ7_copyOf_59c91 3 (some (.array .int))) ({ frames := 1, cells := 1, slots := 600, locals := 80 }) (va_Pc [.ref p1.toNat, .int (iI p2)] (xP (dC, dI) (xG L cid K N v) (xT cid) tW sK sV sz)) (va_Qq (fun (r : Option Nat) (u : (List Nat × (Int → Nat) × (Int → Int) × (Int → Int → Int))) => ∃ z : Int, r = opt z ∧ (xI u.1 u.2.1 u.2.2.1 u.2.2.2) ∧ (xE L K N u.1 u.2.1 u.2.2.1) ∧ (frE L K [(66, (-1)), (99, 0)] u.2.2.2 v) ∧ (ok u.1 u.2.1 z 66)) (fun u t => va_P (dC, dI) vwCl (xG u.1 cid u.2.1 u.2.2.1 u.2.2.2) t.heap ∧ va_K (dC, dI) vwCl (xT cid) t ∧ va_D (va_A (xG L cid K N v) sz) (xG u.1 cid u.2.1 u.2.2.1 u.2.2.2)) (va_A (xG L cid K N v) sz)) 1 600 (va_A (xG L cid K N v) sz) := by
  refine Met.ofW (cc := cJ7_copyOf_59c91) (maxL := 3) (ret := (some (.array .int))) (by decide) rfl ?_
  intro p e s m args below meth c s₁ B hml hv
  obtain ⟨rfl, ⟨hsz, hP, hK, hD0⟩, hX⟩ := hv
  have hx := B.exec
  have hb := B.bytes
  have hr := B.returns
  have hts := atoms_spec (ws := (jk yJ7_copyOf_59c91 cJ7_copyOf_59c91 3 (some (.array .int)))) B.pre
  have hj : ∀ w ∈ jw, w.before ([.ref p1.toNat, .int (iI p2)] : List Value).toArray s = true := fun w h => hts w (jm h)
  have hown : s.vm.findClass RJ7 = some m.cls := findClass_of_methodNamed B.named
  subst hsz
  have hD := hD0.self (sz := s.heap.size)
  generalize hAe : (va_A (xG L cid K N v) s.heap.size) = A at hD hX ⊢
  have hA : ∀ q : Nat, s.heap.size ≤ q → A q := fun q h => by rw [← hAe]; exact Or.inr h
  have hS : va_S A s.heap s.heap [] := va_S.rf
  have hE0 : xE L K N L K N := xE_rf
  have hF0 : frE L K [(66, (-1)), (99, 0)] v v := frE_rf
  have hXa := hX
  have hP : va_P (dC, dI) vwCl (xG L cid K N v) s.heap := hP
  have hl := lv_entry ([.ref p1.toNat, .int (iI p2)]) (n := 3) (Nat.le_of_ble_eq_true rfl)
  rw [lg_entry_eq]
  generalize (lg_sl ([.ref p1.toNat, .int (iI p2)]) ++ List.replicate (3 - (lg_sl ([.ref p1.toNat, .int (iI p2)])).length) Slot.unset).toArray = ls at hl ⊢
  have hl : lv_has ls 3 [(0, .ref p1.toNat), (1, .int (iI p2))] := hl
  generalize hQ : MQ below (va_Qq (fun (r : Option Nat) (u : (List Nat × (Int → Nat) × (Int → Int) × (Int → Int → Int))) => ∃ z : Int, r = opt z ∧ (xI u.1 u.2.1 u.2.2.1 u.2.2.2) ∧ (xE L K N u.1 u.2.1 u.2.2.1) ∧ (frE L K [(66, (-1)), (99, 0)] u.2.2.2 v) ∧ (ok u.1 u.2.1 z 66)) (fun u t => va_P (dC, dI) vwCl (xG u.1 cid u.2.1 u.2.2.1 u.2.2.2) t.heap ∧ va_K (dC, dI) vwCl (xT cid) t ∧ va_D A (xG u.1 cid u.2.1 u.2.2.1 u.2.2.2)) A) ([.ref p1.toNat, .int (iI p2)] : List Value).toArray s 1 600 A = Q
  suffices ST : ∀ (H : Heap) (locs : List Loc), va_P (dC, dI) vwCl (xG L cid K N v) H → va_S A s.heap H locs → W p l e ({ frames := 1, cells := 1, slots := 600, locals := 80 }) s m ([.ref p1.toNat, .int (iI p2)] : List Value).toArray below meth c H locs 0 0 Q (F0 m 0 ls []) from ST _ _ hP hS
  clear hP hS
  intro H locs hP hS
  have h_1 : N p1 = 600 := xn_25 hI q1
  refine lv_iload_n hx hb dJ7_copyOf_59c91_0 rfl (lv_at hl 1 rfl) ?_
  refine lv_aload_n hx hb dJ7_copyOf_59c91_1 rfl (lv_at hl 0 rfl) ?_
  refine lx_25 (y := 600) hx hb hK hP q1 (by omega) (by omega) dJ7_copyOf_59c91_2 ?_
  refine xr_icmp_ne (tgt := 14) hx hb dJ7_copyOf_59c91_3 (by decide) (by omega) (by omega) (fun h_2 => ?_) (fun h_2 => ?_)
  · refine lv_iload_n hx hb dJ7_copyOf_59c91_14 rfl (lv_at hl 1 rfl) ?_
    refine va_newa (atype := .int) (n := iI p2) (N' := Int.toNat p2) (a0 := (Int.toNat p2, .inl (fun _ => 0))) (ty := .int) hx hb (hts (.arrayClass .int) (jm m_2)) rfl hK hP hD hS hA (fun _ => rfl) (xn_nn (by omega) (by omega)) (iI_clamp (by omega) (by omega)) (show Int.toNat p2 * 4 ≤ 536870912 by omega) (Nat.le_of_ble_eq_true rfl) (show 0 + Int.toNat p2 ≤ 600 by omega) dJ7_copyOf_59c91_15 (fun q_3 c_4 H hK2 hP hD hS => ?_)
    refine W.widen (k := 1) (n := 600) (Nat.le_of_ble_eq_true rfl) (by omega) ?_
    obtain ⟨z_5, L_6, K_7, N_8, v_9, hz9, E_10, h_11, q_12, h_13, h_14, f_15, I_16, hP9, hD9⟩ := xzero_66 hK2 hI hP hD (by omega)
    subst hz9
    have hP := hP9
    have hD := hD9
    have F_18 := frE_frE (W := [(66, (-1)), (99, 0)]) hE0 (f_15 []) rfl hF0
    have E_17 := xE_tr hE0 E_10
    have h_19 := xE_ok E_10 q1
    have h_20 : N_8 p1 = 600 := xn_25 I_16 h_19
    have h_21 : 0 ≤ N_8 z_5 ∧ N_8 z_5 ≤ 600 := xn_66 I_16 h_11
    refine lv_astore_n (i := 2) (lv' := [(2, .ref z_5.toNat), (0, .ref p1.toNat), (1, .int (iI p2))]) hx hb dJ7_copyOf_59c91_17 rfl hl (by decide) rfl (fun ls hl => ?_)
    refine lv_aload_n hx hb dJ7_copyOf_59c91_18 rfl (lv_at hl 1 rfl) ?_
    refine lv_iconst (v := iI 0) hx hb dJ7_copyOf_59c91_19 rfl ?_
    refine lv_aload_n hx hb dJ7_copyOf_59c91_20 rfl (lv_at hl 0 rfl) ?_
    refine lv_iconst (v := iI 0) hx hb dJ7_copyOf_59c91_21 rfl ?_
    refine lv_aload_n hx hb dJ7_copyOf_59c91_22 rfl (lv_at hl 1 rfl) ?_
    refine lx_25 (y := 600) hx hb hK hP h_19 (by omega) (by omega) dJ7_copyOf_59c91_23 ?_
    refine lv_iload_n hx hb dJ7_copyOf_59c91_24 rfl (lv_at hl 2 rfl) ?_
    refine va_mmin hx hb (by rw [hml]; exact hl.1.symm) hown (hj _ m_1291) (hj _ m_765) (hj _ m_762) (hj _ m_766) (Nat.le_of_ble_eq_true rfl) (Nat.le_of_ble_eq_true rfl) (Nat.le_of_ble_eq_true rfl) (Nat.le_of_ble_eq_true rfl) dJ7_copyOf_59c91_25 ?_
    refine xm_min (by omega) (by omega) (fun z_22 h_23 => ?_)
    refine xc2_25_66 hx hb (by rw [hml]; exact hl.1.symm) hown (hj _ m_1292) (hj _ m_867) (hj _ m_868) (hj _ m_869) hK hP hD hS I_16 h_19 h_11 (by omega) (by omega) (by omega) (by omega) (by omega) (by omega) (by omega) (Nat.le_of_ble_eq_true rfl) (Nat.le_of_ble_eq_true rfl) dJ7_copyOf_59c91_28 (fun v_24 H locs f_25 I_26 hP hD hS => ?_)
    refine lv_aload_n hx hb dJ7_copyOf_59c91_31 rfl (lv_at hl 0 rfl) ?_
    have F_27 := frE_fr (W := [(66, (-1)), (99, 0)]) (W1 := [(66, (-1)), (99, 0)]) E_17 (fr_tr f_25 rfl fr_rf) rfl F_18
    rw [← hQ]
    refine jt_q (rv z_5) (rv_ref (h_11).1).symm ?_
    exact W.aret (v := rv z_5) hx hb hr (Or.inr ⟨_, rfl⟩) (rv_or z_5) (fun t ht hW => ⟨⟨opt z_5, (L_6, K_7, N_8, v_24), rfl, ⟨z_5, rfl, I_26, E_17, F_27, h_11⟩, by rw [ht]; exact hP, va_K.moved hW.alike hK, hD⟩, hS.F ht⟩) hS.2.2 dJ7_copyOf_59c91_32
  · refine lv_aload_n hx hb dJ7_copyOf_59c91_6 rfl (lv_at hl 0 rfl) ?_
    obtain ⟨q_29, h_30⟩ := xg_arr (cid := cid) (N := N) (v := v) q1 rfl
    refine va_clone (ad := "[I") (x := (Int.toNat (N p1), .inl (ar (v p1)))) hx hb (by rw [hml]; exact hl.1.symm) hown (hts (.methodLink RJ7 316 ⟨"[I", "clone", "()Ljava/lang/Object;"⟩) (jm m_1293)) (hts (.sameMethod "[I" "java/lang/Object" "clone" "()Ljava/lang/Object;") (jm m_1294)) (hts (.native ⟨"java/lang/Object", "clone", "()Ljava/lang/Object;"⟩) (jm m_1295)) (hts (.instanceMethod ⟨"java/lang/Object", "clone", "()Ljava/lang/Object;"⟩) (jm m_1296)) (hts (.selects "[I" ⟨"[I", "clone", "()Ljava/lang/Object;"⟩ ⟨"java/lang/Object", "clone", "()Ljava/lang/Object;"⟩) (jm m_1297)) hX.1.1.2.2 hK hP hD hS hA q_29 0 h_30 rfl (hK.2 0 _ rfl).2 (jfits_int _ _ _) (Nat.le_of_ble_eq_true rfl) (Nat.le_of_ble_eq_true rfl) (Nat.le_of_ble_eq_true rfl) (show 0 + Int.toNat (N p1) ≤ 600 by omega) dJ7_copyOf_59c91_7 (fun q_28 H hK2 hP hD hS => ?_)
    refine W.widen (k := 1) (n := 600) (Nat.le_of_ble_eq_true rfl) (show 0 + Int.toNat (N p1) ≤ 600 by omega) ?_
    obtain ⟨z_31, L_32, K_33, N_34, v_35, hz9, E_36, h_37, q_38, h_39, h_40, f_41, I_42, hP9, hD9⟩ := xcpy_25_66 q1 hI hP hD (by omega)
    subst hz9
    have hP := hP9
    have hD := hD9
    have F_44 := frE_frE (W := [(66, (-1)), (99, 0)]) hE0 (f_41 []) rfl hF0
    have E_43 := xE_tr hE0 E_36
    have h_45 := xE_ok E_36 q1
    have h_46 : N_34 p1 = 600 := xn_25 I_42 h_45
    have h_47 : 0 ≤ N_34 z_31 ∧ N_34 z_31 ≤ 600 := xn_66 I_42 h_37
    obtain ⟨q_48, h_49⟩ := xg_arr (cid := cid) (N := N_34) (v := v_35) h_37 rfl
    refine va_castA (nm := "[I") hx hb hown (hts (.classLink RJ7 317 "[I") (jm m_1298)) hP q_48 h_49 (hK.2 0 _ rfl).2 dJ7_copyOf_59c91_10 ?_
    rw [← hQ]
    refine jt_q (rv z_31) (rv_ref (h_37).1).symm ?_
    exact W.aret (v := rv z_31) hx hb hr (Or.inr ⟨_, rfl⟩) (rv_or z_31) (fun t ht hW => ⟨⟨opt z_31, (L_32, K_33, N_34, v_35), rfl, ⟨z_31, rfl, I_42, E_43, F_44, h_37⟩, by rw [ht]; exact hP, va_K.moved hW.alike hK, hD⟩, hS.F ht⟩) hS.2.2 dJ7_copyOf_59c91_13
set_option maxHeartbeats 2000000 in
set_option maxRecDepth 100000 in
theorem sJ7_copyOf_59c91_37_63 (l : Launch) (dC : Nat → ClassId) (dI : Nat → Nat → Nat) (sz : Nat) (L : List Nat) (cid : Nat → ClassId) (K : Int → Nat) (N : Int → Int) (tW : Nat) (sK sV : Nat → Nat) (v : Int → Int → Int) (p1 : Int) (p2 : Int) (hI : xI L K N v) (q1 : ok L K p1 37) (q2 : rg p2) (k1 : 0 ≤ p2 ∧ p2 ≤ 60) : Met l yJ7_copyOf_59c91 (jk yJ7_copyOf_59c91 cJ7_copyOf_59c91 3 (some (.array .int))) ({ frames := 1, cells := 1, slots := 60, locals := 80 }) (va_Pc [.ref p1.toNat, .int (iI p2)] (xP (dC, dI) (xG L cid K N v) (xT cid) tW sK sV sz)) (va_Qq (fun (r : Option Nat) (u : (List Nat × (Int → Nat) × (Int → Int) × (Int → Int → Int))) => ∃ z : Int, r = opt z ∧ (xI u.1 u.2.1 u.2.2.1 u.2.2.2) ∧ (xE L K N u.1 u.2.1 u.2.2.1) ∧ (frE L K [(63, (-1)), (99, 0)] u.2.2.2 v) ∧ (ok u.1 u.2.1 z 63)) (fun u t => va_P (dC, dI) vwCl (xG u.1 cid u.2.1 u.2.2.1 u.2.2.2) t.heap ∧ va_K (dC, dI) vwCl (xT cid) t ∧ va_D (va_A (xG L cid K N v) sz) (xG u.1 cid u.2.1 u.2.2.1 u.2.2.2)) (va_A (xG L cid K N v) sz)) 1 60 (va_A (xG L cid K N v) sz) := by
  refine Met.ofW (cc := cJ7_copyOf_59c91) (maxL := 3) (ret := (some (.array .int))) (by decide) rfl ?_
  intro p e s m args below meth c s₁ B hml hv
  obtain ⟨rfl, ⟨hsz, hP, hK, hD0⟩, hX⟩ := hv
  have hx := B.exec
  have hb := B.bytes
  have hr := B.returns
  have hts := atoms_spec (ws := (jk yJ7_copyOf_59c91 cJ7_copyOf_59c91 3 (some (.array .int)))) B.pre
  have hj : ∀ w ∈ jw, w.before ([.ref p1.toNat, .int (iI p2)] : List Value).toArray s = true := fun w h => hts w (jm h)
  have hown : s.vm.findClass RJ7 = some m.cls := findClass_of_methodNamed B.named
  subst hsz
  have hD := hD0.self (sz := s.heap.size)
  generalize hAe : (va_A (xG L cid K N v) s.heap.size) = A at hD hX ⊢
  have hA : ∀ q : Nat, s.heap.size ≤ q → A q := fun q h => by rw [← hAe]; exact Or.inr h
  have hS : va_S A s.heap s.heap [] := va_S.rf
  have hE0 : xE L K N L K N := xE_rf
  have hF0 : frE L K [(63, (-1)), (99, 0)] v v := frE_rf
  have hXa := hX
  have hP : va_P (dC, dI) vwCl (xG L cid K N v) s.heap := hP
  have hl := lv_entry ([.ref p1.toNat, .int (iI p2)]) (n := 3) (Nat.le_of_ble_eq_true rfl)
  rw [lg_entry_eq]
  generalize (lg_sl ([.ref p1.toNat, .int (iI p2)]) ++ List.replicate (3 - (lg_sl ([.ref p1.toNat, .int (iI p2)])).length) Slot.unset).toArray = ls at hl ⊢
  have hl : lv_has ls 3 [(0, .ref p1.toNat), (1, .int (iI p2))] := hl
  generalize hQ : MQ below (va_Qq (fun (r : Option Nat) (u : (List Nat × (Int → Nat) × (Int → Int) × (Int → Int → Int))) => ∃ z : Int, r = opt z ∧ (xI u.1 u.2.1 u.2.2.1 u.2.2.2) ∧ (xE L K N u.1 u.2.1 u.2.2.1) ∧ (frE L K [(63, (-1)), (99, 0)] u.2.2.2 v) ∧ (ok u.1 u.2.1 z 63)) (fun u t => va_P (dC, dI) vwCl (xG u.1 cid u.2.1 u.2.2.1 u.2.2.2) t.heap ∧ va_K (dC, dI) vwCl (xT cid) t ∧ va_D A (xG u.1 cid u.2.1 u.2.2.1 u.2.2.2)) A) ([.ref p1.toNat, .int (iI p2)] : List Value).toArray s 1 60 A = Q
  suffices ST : ∀ (H : Heap) (locs : List Loc), va_P (dC, dI) vwCl (xG L cid K N v) H → va_S A s.heap H locs → W p l e ({ frames := 1, cells := 1, slots := 60, locals := 80 }) s m ([.ref p1.toNat, .int (iI p2)] : List Value).toArray below meth c H locs 0 0 Q (F0 m 0 ls []) from ST _ _ hP hS
  clear hP hS
  intro H locs hP hS
  have h_1 : N p1 = 60 := xn_37 hI q1
  refine lv_iload_n hx hb dJ7_copyOf_59c91_0 rfl (lv_at hl 1 rfl) ?_
  refine lv_aload_n hx hb dJ7_copyOf_59c91_1 rfl (lv_at hl 0 rfl) ?_
  refine lx_37 (y := 60) hx hb hK hP q1 (by omega) (by omega) dJ7_copyOf_59c91_2 ?_
  refine xr_icmp_ne (tgt := 14) hx hb dJ7_copyOf_59c91_3 (by decide) (by omega) (by omega) (fun h_2 => ?_) (fun h_2 => ?_)
  · refine lv_iload_n hx hb dJ7_copyOf_59c91_14 rfl (lv_at hl 1 rfl) ?_
    refine va_newa (atype := .int) (n := iI p2) (N' := Int.toNat p2) (a0 := (Int.toNat p2, .inl (fun _ => 0))) (ty := .int) hx hb (hts (.arrayClass .int) (jm m_2)) rfl hK hP hD hS hA (fun _ => rfl) (xn_nn (by omega) (by omega)) (iI_clamp (by omega) (by omega)) (show Int.toNat p2 * 4 ≤ 536870912 by omega) (Nat.le_of_ble_eq_true rfl) (show 0 + Int.toNat p2 ≤ 60 by omega) dJ7_copyOf_59c91_15 (fun q_3 c_4 H hK2 hP hD hS => ?_)
    refine W.widen (k := 1) (n := 60) (Nat.le_of_ble_eq_true rfl) (by omega) ?_
    obtain ⟨z_5, L_6, K_7, N_8, v_9, hz9, E_10, h_11, q_12, h_13, h_14, f_15, I_16, hP9, hD9⟩ := xzero_63 hK2 hI hP hD (by omega)
    subst hz9
    have hP := hP9
    have hD := hD9
    have F_18 := frE_frE (W := [(63, (-1)), (99, 0)]) hE0 (f_15 []) rfl hF0
    have E_17 := xE_tr hE0 E_10
    have h_19 := xE_ok E_10 q1
    have h_20 : N_8 p1 = 60 := xn_37 I_16 h_19
    have h_21 : 0 ≤ N_8 z_5 ∧ N_8 z_5 ≤ 60 := xn_63 I_16 h_11
    refine lv_astore_n (i := 2) (lv' := [(2, .ref z_5.toNat), (0, .ref p1.toNat), (1, .int (iI p2))]) hx hb dJ7_copyOf_59c91_17 rfl hl (by decide) rfl (fun ls hl => ?_)
    refine lv_aload_n hx hb dJ7_copyOf_59c91_18 rfl (lv_at hl 1 rfl) ?_
    refine lv_iconst (v := iI 0) hx hb dJ7_copyOf_59c91_19 rfl ?_
    refine lv_aload_n hx hb dJ7_copyOf_59c91_20 rfl (lv_at hl 0 rfl) ?_
    refine lv_iconst (v := iI 0) hx hb dJ7_copyOf_59c91_21 rfl ?_
    refine lv_aload_n hx hb dJ7_copyOf_59c91_22 rfl (lv_at hl 1 rfl) ?_
    refine lx_37 (y := 60) hx hb hK hP h_19 (by omega) (by omega) dJ7_copyOf_59c91_23 ?_
    refine lv_iload_n hx hb dJ7_copyOf_59c91_24 rfl (lv_at hl 2 rfl) ?_
    refine va_mmin hx hb (by rw [hml]; exact hl.1.symm) hown (hj _ m_1291) (hj _ m_765) (hj _ m_762) (hj _ m_766) (Nat.le_of_ble_eq_true rfl) (Nat.le_of_ble_eq_true rfl) (Nat.le_of_ble_eq_true rfl) (Nat.le_of_ble_eq_true rfl) dJ7_copyOf_59c91_25 ?_
    refine xm_min (by omega) (by omega) (fun z_22 h_23 => ?_)
    refine xc2_37_63 hx hb (by rw [hml]; exact hl.1.symm) hown (hj _ m_1292) (hj _ m_867) (hj _ m_868) (hj _ m_869) hK hP hD hS I_16 h_19 h_11 (by omega) (by omega) (by omega) (by omega) (by omega) (by omega) (by omega) (Nat.le_of_ble_eq_true rfl) (Nat.le_of_ble_eq_true rfl) dJ7_copyOf_59c91_28 (fun v_24 H locs f_25 I_26 hP hD hS => ?_)
    refine lv_aload_n hx hb dJ7_copyOf_59c91_31 rfl (lv_at hl 0 rfl) ?_
    have F_27 := frE_fr (W := [(63, (-1)), (99, 0)]) (W1 := [(63, (-1)), (99, 0)]) E_17 (fr_tr f_25 rfl fr_rf) rfl F_18
    rw [← hQ]
    refine jt_q (rv z_5) (rv_ref (h_11).1).symm ?_
    exact W.aret (v := rv z_5) hx hb hr (Or.inr ⟨_, rfl⟩) (rv_or z_5) (fun t ht hW => ⟨⟨opt z_5, (L_6, K_7, N_8, v_24), rfl, ⟨z_5, rfl, I_26, E_17, F_27, h_11⟩, by rw [ht]; exact hP, va_K.moved hW.alike hK, hD⟩, hS.F ht⟩) hS.2.2 dJ7_copyOf_59c91_32
  · refine lv_aload_n hx hb dJ7_copyOf_59c91_6 rfl (lv_at hl 0 rfl) ?_
    obtain ⟨q_29, h_30⟩ := xg_arr (cid := cid) (N := N) (v := v) q1 rfl
    refine va_clone (ad := "[I") (x := (Int.toNat (N p1), .inl (ar (v p1)))) hx hb (by rw [hml]; exact hl.1.symm) hown (hts (.methodLink RJ7 316 ⟨"[I", "clone", "()Ljava/lang/Object;"⟩) (jm m_1293)) (hts (.sameMethod "[I" "java/lang/Object" "clone" "()Ljava/lang/Object;") (jm m_1294)) (hts (.native ⟨"java/lang/Object", "clone", "()Ljava/lang/Object;"⟩) (jm m_1295)) (hts (.instanceMethod ⟨"java/lang/Object", "clone", "()Ljava/lang/Object;"⟩) (jm m_1296)) (hts (.selects "[I" ⟨"[I", "clone", "()Ljava/lang/Object;"⟩ ⟨"java/lang/Object", "clone", "()Ljava/lang/Object;"⟩) (jm m_1297)) hX.1.1.2.2 hK hP hD hS hA q_29 0 h_30 rfl (hK.2 0 _ rfl).2 (jfits_int _ _ _) (Nat.le_of_ble_eq_true rfl) (Nat.le_of_ble_eq_true rfl) (Nat.le_of_ble_eq_true rfl) (show 0 + Int.toNat (N p1) ≤ 60 by omega) dJ7_copyOf_59c91_7 (fun q_28 H hK2 hP hD hS => ?_)
    refine W.widen (k := 1) (n := 60) (Nat.le_of_ble_eq_true rfl) (show 0 + Int.toNat (N p1) ≤ 60 by omega) ?_
    obtain ⟨z_31, L_32, K_33, N_34, v_35, hz9, E_36, h_37, q_38, h_39, h_40, f_41, I_42, hP9, hD9⟩ := xcpy_37_63 q1 hI hP hD (by omega)
    subst hz9
    have hP := hP9
    have hD := hD9
    have F_44 := frE_frE (W := [(63, (-1)), (99, 0)]) hE0 (f_41 []) rfl hF0
    have E_43 := xE_tr hE0 E_36
    have h_45 := xE_ok E_36 q1
    have h_46 : N_34 p1 = 60 := xn_37 I_42 h_45
    have h_47 : 0 ≤ N_34 z_31 ∧ N_34 z_31 ≤ 60 := xn_63 I_42 h_37
    obtain ⟨q_48, h_49⟩ := xg_arr (cid := cid) (N := N_34) (v := v_35) h_37 rfl
    refine va_castA (nm := "[I") hx hb hown (hts (.classLink RJ7 317 "[I") (jm m_1298)) hP q_48 h_49 (hK.2 0 _ rfl).2 dJ7_copyOf_59c91_10 ?_
    rw [← hQ]
    refine jt_q (rv z_31) (rv_ref (h_37).1).symm ?_
    exact W.aret (v := rv z_31) hx hb hr (Or.inr ⟨_, rfl⟩) (rv_or z_31) (fun t ht hW => ⟨⟨opt z_31, (L_32, K_33, N_34, v_35), rfl, ⟨z_31, rfl, I_42, E_43, F_44, h_37⟩, by rw [ht]; exact hP, va_K.moved hW.alike hK, hD⟩, hS.F ht⟩) hS.2.2 dJ7_copyOf_59c91_13
