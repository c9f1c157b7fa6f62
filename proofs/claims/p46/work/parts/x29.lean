set_option maxHeartbeats 2000000 in
set_option maxRecDepth 100000 in
theorem sX7_stopAt (l : Launch) (dC : Nat → ClassId) (dI : Nat → Nat → Nat) (sz : Nat) (L : List Nat) (cid : Nat → ClassId) (K : Int → Nat) (N : Int → Int) (tW : Nat) (sK sV : Nat → Nat) (v : Int → Int → Int) (p0 : Int) (p1 : Int) (p2 : Int) (hI : xI L K N v) (q0 : ok L K p0 7) (q1 : rg p1) (q2 : rg p2) : Met l yX7_stopAt (jk yX7_stopAt cX7_stopAt 4 (some .int)) ({ frames := 1, cells := 0, slots := 0, locals := 21 }) (va_Pc [.ref p0.toNat, .int (iI p1), .int (iI p2)] (xP (dC, dI) (xG L cid K N v) (xT cid) tW sK sV sz)) (va_Qi (fun (r : Int32) (_ : Unit) => ∃ z : Int, r = iI z ∧ (rg z)) (fun _ _ => True) (va_A [] sz)) 0 0 (va_A [] sz) := by
  refine Met.ofW (cc := cX7_stopAt) (maxL := 4) (ret := (some .int)) (by decide) rfl ?_
  intro p e s m args below meth c s₁ B hml hv
  obtain ⟨rfl, ⟨hsz, hP, hK, hD0⟩, hX⟩ := hv
  have hx := B.exec
  have hb := B.bytes
  have hr := B.returns
  have hts := atoms_spec (ws := (jk yX7_stopAt cX7_stopAt 4 (some .int))) B.pre
  have hj : ∀ w ∈ jw, w.before ([.ref p0.toNat, .int (iI p1), .int (iI p2)] : List Value).toArray s = true := fun w h => hts w (jm h)
  have hown : s.vm.findClass RX7 = some m.cls := findClass_of_methodNamed B.named
  subst hsz
  have hDw := hD0.self (sz := s.heap.size)
  have hAA : ∀ q : Nat, s.heap.size ≤ q → va_A (xG L cid K N v) s.heap.size q := fun q h => Or.inr h
  have hAw : ∀ q, va_A [] s.heap.size q → va_A (xG L cid K N v) s.heap.size q := ja_nil va_S.rf hAA
  generalize hAe : (va_A [] s.heap.size) = A at hAw ⊢
  have hA : ∀ q : Nat, s.heap.size ≤ q → A q := fun q h => by rw [← hAe]; exact Or.inr h
  have hS : va_S A s.heap s.heap [] := va_S.rf
  have hXa := hX.nar hAw
  have hP : va_P (dC, dI) vwCl (xG L cid K N v) s.heap := hP
  have hl := lv_entry ([.ref p0.toNat, .int (iI p1), .int (iI p2)]) (n := 4) (Nat.le_of_ble_eq_true rfl)
  rw [lg_entry_eq]
  generalize (lg_sl ([.ref p0.toNat, .int (iI p1), .int (iI p2)]) ++ List.replicate (4 - (lg_sl ([.ref p0.toNat, .int (iI p1), .int (iI p2)])).length) Slot.unset).toArray = ls at hl ⊢
  have hl : lv_has ls 4 [(0, .ref p0.toNat), (1, .int (iI p1)), (2, .int (iI p2))] := hl
  generalize hQ : MQ below (va_Qi (fun (r : Int32) (_ : Unit) => ∃ z : Int, r = iI z ∧ (rg z)) (fun _ _ => True) A) ([.ref p0.toNat, .int (iI p1), .int (iI p2)] : List Value).toArray s 0 0 A = Q
  suffices ST : ∀ (H : Heap) (locs : List Loc), va_P (dC, dI) vwCl (xG L cid K N v) H → va_S A s.heap H locs → W p l e ({ frames := 1, cells := 0, slots := 0, locals := 21 }) s m ([.ref p0.toNat, .int (iI p1), .int (iI p2)] : List Value).toArray below meth c H locs 0 0 Q (F0 m 0 ls []) from ST _ _ hP hS
  clear hP hS
  intro H locs hP hS
  refine lv_iload_n hx hb dX7_stopAt_0 rfl (lv_at hl 1 rfl) ?_
  refine lv_iconst (v := iI 1) hx hb dX7_stopAt_1 rfl ?_
  refine xr_add hx hb dX7_stopAt_2 ?_
  refine xr_kept (fun z_1 h_2 h_3 => ?_)
  refine lv_istore_n (i := 3) (lv' := [(3, .int (iI z_1)), (0, .ref p0.toNat), (1, .int (iI p1)), (2, .int (iI p2))]) hx hb dX7_stopAt_3 rfl hl (by decide) rfl (fun ls hl => ?_)
  have L4 : ∀ (n4 : Nat) (a3_4 : Int) (H : Heap) (locs : List Loc) (ls : Array Slot), ((-2147483648) ≤ a3_4 ∧ a3_4 ≤ 2147483647) → (0 < (n4 : Int) ∧ (v p0 1) - a3_4 < (n4 : Int)) → va_P (dC, dI) vwCl (xG L cid K N v) H → va_S A s.heap H locs → lv_has ls 4 [(3, .int (iI a3_4)), (0, .ref p0.toNat), (1, .int (iI p1)), (2, .int (iI p2))] → W p l e ({ frames := 1, cells := 0, slots := 0, locals := 21 }) s m ([.ref p0.toNat, .int (iI p1), .int (iI p2)] : List Value).toArray below meth c H locs 0 0 Q (F0 m 4 ls []) := by
    intro n4
    induction n4 with
    | zero =>
      intro a3_4 H locs ls h_4 hm4 hP hS hl
      exfalso; omega
    | succ n4 ih4 =>
      intro a3_4 H locs ls h_5 hm4 hP hS hl
      refine lv_iload_n hx hb dX7_stopAt_4 rfl (lv_at hl 0 rfl) ?_
      refine lv_aload_n hx hb dX7_stopAt_5 rfl (lv_at hl 1 rfl) ?_
      have h_6 : 0 ≤ v p0 1 ∧ v p0 1 ≤ 600 := xf_7_1 hI q0
      refine gx_RX7_43 (y := v p0 1) hx hb hj hown hK hP q0 rfl dX7_stopAt_6 ?_
      refine xr_icmp_ge (tgt := 34) hx hb dX7_stopAt_9 (by decide) (by omega) (by omega) (fun h_7 => ?_) (fun h_7 => ?_)
      · have L34 : ∀ (n34 : Nat) (a3_34 : Int) (H : Heap) (locs : List Loc) (ls : Array Slot), ((-2147483648) ≤ a3_34 ∧ a3_34 ≤ 2147483647) → (0 < (n34 : Int) ∧ (v p0 1) - a3_34 < (n34 : Int)) → va_P (dC, dI) vwCl (xG L cid K N v) H → va_S A s.heap H locs → lv_has ls 4 [(3, .int (iI a3_34)), (0, .ref p0.toNat), (1, .int (iI p1)), (2, .int (iI p2))] → W p l e ({ frames := 1, cells := 0, slots := 0, locals := 21 }) s m ([.ref p0.toNat, .int (iI p1), .int (iI p2)] : List Value).toArray below meth c H locs 0 0 Q (F0 m 34 ls []) := by
          intro n34
          induction n34 with
          | zero =>
            intro a3_34 H locs ls h_8 hm34 hP hS hl
            exfalso; omega
          | succ n34 ih34 =>
            intro a3_34 H locs ls h_9 hm34 hP hS hl
            refine lv_iload_n hx hb dX7_stopAt_34 rfl (lv_at hl 0 rfl) ?_
            refine lv_aload_n hx hb dX7_stopAt_35 rfl (lv_at hl 1 rfl) ?_
            refine gx_RX7_43 (y := v p0 1) hx hb hj hown hK hP q0 rfl dX7_stopAt_36 ?_
            refine xr_icmp_ge (tgt := 64) hx hb dX7_stopAt_39 (by decide) (by omega) (by omega) (fun h_10 => ?_) (fun h_10 => ?_)
            · refine lv_iload_n hx hb dX7_stopAt_64 rfl (lv_at hl 0 rfl) ?_
              rw [← hQ]
              exact W.iret (v := iI a3_34) hx hb hr (fun t ht hW => ⟨⟨iI a3_34, (), rfl, ⟨a3_34, rfl, by omega⟩, trivial⟩, hS.F ht⟩) hS.2.2 dX7_stopAt_65
            · refine lv_iload_n hx hb dX7_stopAt_42 rfl (lv_at hl 3 rfl) ?_
              refine lv_iconst (v := iI 2) hx hb dX7_stopAt_43 rfl ?_
              refine xr_icmp_ne (tgt := 64) hx hb dX7_stopAt_44 (by decide) (by omega) (by omega) (fun h_11 => ?_) (fun h_11 => ?_)
              · refine lv_iload_n hx hb dX7_stopAt_64 rfl (lv_at hl 0 rfl) ?_
                rw [← hQ]
                exact W.iret (v := iI a3_34) hx hb hr (fun t ht hW => ⟨⟨iI a3_34, (), rfl, ⟨a3_34, rfl, by omega⟩, trivial⟩, hS.F ht⟩) hS.2.2 dX7_stopAt_65
              · refine lv_aload_n hx hb dX7_stopAt_47 rfl (lv_at hl 1 rfl) ?_
                refine lv_iload_n hx hb dX7_stopAt_48 rfl (lv_at hl 0 rfl) ?_
                refine jc_i (va_runV (As := [.int (iI a3_34)]) (rest := []) ⟨hx, hb, hml, hown, hts⟩ (sX7_byteAt l dC dI _ L cid K N tW sK sV v p0 a3_34 hI q0 (by omega)) (cwV 1 hts (jgoodV m_728 m_729 m_730 m_677 m_731) rfl rfl rfl (by decide +kernel) ⟨(Nat.le_of_ble_eq_true rfl), (Nat.le_of_ble_eq_true rfl)⟩) ⟨xP_blind, xrecv hK hP q0 rfl rfl, fun U hU hW => ⟨rfl, xP_of hU hW hP hK hDw hX hS hAw hAA⟩⟩ rfl rfl hl.1 rfl (lv_room (Nat.le_of_ble_eq_true rfl)) dX7_stopAt_49 ⟨(Nat.le_of_ble_eq_true rfl), (Nat.le_of_ble_eq_true rfl)⟩) hP hS hA (fun r_12 H locs w_13 hP hS => ?_)
                obtain ⟨z_14, rfl, h_15⟩ := w_13
                refine jc_i (va_runS (As := [.int (iI z_14)]) (rest := []) ⟨hx, hb, hml, hown, hts⟩ (sX0_isDigit l dC dI _ z_14 (by omega)) (va_cwS 1 hts (jgoodS m_792 m_665 m_666 m_667) rfl rfl rfl (by decide +kernel) ⟨(Nat.le_of_ble_eq_true rfl), (Nat.le_of_ble_eq_true rfl)⟩) ⟨jw_blind0, fun U hU hW => ⟨rfl, congrArg Array.size hU⟩⟩ rfl rfl hl.1 rfl (lv_room (Nat.le_of_ble_eq_true rfl)) dX7_stopAt_52 ⟨(Nat.le_of_ble_eq_true rfl), (Nat.le_of_ble_eq_true rfl)⟩) hP hS hA (fun r_16 H locs w_17 hP hS => ?_)
                obtain ⟨z_18, rfl, h_19⟩ := w_17
                refine xr_if_eq (tgt := 64) hx hb dX7_stopAt_55 (by decide) (by omega) (fun h_20 => ?_) (fun h_20 => ?_)
                · refine lv_iload_n hx hb dX7_stopAt_64 rfl (lv_at hl 0 rfl) ?_
                  rw [← hQ]
                  exact W.iret (v := iI a3_34) hx hb hr (fun t ht hW => ⟨⟨iI a3_34, (), rfl, ⟨a3_34, rfl, by omega⟩, trivial⟩, hS.F ht⟩) hS.2.2 dX7_stopAt_65
                · refine lv_iinc (v := iI (a3_34 + 1)) (lv' := [(3, .int (iI (a3_34 + 1))), (0, .ref p0.toNat), (1, .int (iI p1)), (2, .int (iI p2))]) hx hb dX7_stopAt_58 hl (k := 0) rfl (iI_add _ _) (by decide) rfl (fun ls hl => ?_)
                  refine lv_goto (tgt := 34) hx hb dX7_stopAt_61 (by decide) ?_
                  exact ih34 (a3_34 + 1) H locs ls (by omega) (by omega) hP hS hl
        exact L34 ((((v p0 1) - a3_4 : Int)).toNat + 1) a3_4 H locs ls (by omega) (by omega) hP hS hl
      · refine lv_iload_n hx hb dX7_stopAt_12 rfl (lv_at hl 3 rfl) ?_
        refine lv_iconst (v := iI 1) hx hb dX7_stopAt_13 rfl ?_
        refine xr_icmp_ne (tgt := 34) hx hb dX7_stopAt_14 (by decide) (by omega) (by omega) (fun h_21 => ?_) (fun h_21 => ?_)
        · have L34 : ∀ (n34 : Nat) (a3_34 : Int) (H : Heap) (locs : List Loc) (ls : Array Slot), ((-2147483648) ≤ a3_34 ∧ a3_34 ≤ 2147483647) → (0 < (n34 : Int) ∧ (v p0 1) - a3_34 < (n34 : Int)) → va_P (dC, dI) vwCl (xG L cid K N v) H → va_S A s.heap H locs → lv_has ls 4 [(3, .int (iI a3_34)), (0, .ref p0.toNat), (1, .int (iI p1)), (2, .int (iI p2))] → W p l e ({ frames := 1, cells := 0, slots := 0, locals := 21 }) s m ([.ref p0.toNat, .int (iI p1), .int (iI p2)] : List Value).toArray below meth c H locs 0 0 Q (F0 m 34 ls []) := by
            intro n34
            induction n34 with
            | zero =>
              intro a3_34 H locs ls h_22 hm34 hP hS hl
              exfalso; omega
            | succ n34 ih34 =>
              intro a3_34 H locs ls h_23 hm34 hP hS hl
              refine lv_iload_n hx hb dX7_stopAt_34 rfl (lv_at hl 0 rfl) ?_
              refine lv_aload_n hx hb dX7_stopAt_35 rfl (lv_at hl 1 rfl) ?_
              refine gx_RX7_43 (y := v p0 1) hx hb hj hown hK hP q0 rfl dX7_stopAt_36 ?_
              refine xr_icmp_ge (tgt := 64) hx hb dX7_stopAt_39 (by decide) (by omega) (by omega) (fun h_24 => ?_) (fun h_24 => ?_)
              · refine lv_iload_n hx hb dX7_stopAt_64 rfl (lv_at hl 0 rfl) ?_
                rw [← hQ]
                exact W.iret (v := iI a3_34) hx hb hr (fun t ht hW => ⟨⟨iI a3_34, (), rfl, ⟨a3_34, rfl, by omega⟩, trivial⟩, hS.F ht⟩) hS.2.2 dX7_stopAt_65
              · refine lv_iload_n hx hb dX7_stopAt_42 rfl (lv_at hl 3 rfl) ?_
                refine lv_iconst (v := iI 2) hx hb dX7_stopAt_43 rfl ?_
                refine xr_icmp_ne (tgt := 64) hx hb dX7_stopAt_44 (by decide) (by omega) (by omega) (fun h_25 => ?_) (fun h_25 => ?_)
                · refine lv_iload_n hx hb dX7_stopAt_64 rfl (lv_at hl 0 rfl) ?_
                  rw [← hQ]
                  exact W.iret (v := iI a3_34) hx hb hr (fun t ht hW => ⟨⟨iI a3_34, (), rfl, ⟨a3_34, rfl, by omega⟩, trivial⟩, hS.F ht⟩) hS.2.2 dX7_stopAt_65
                · refine lv_aload_n hx hb dX7_stopAt_47 rfl (lv_at hl 1 rfl) ?_
                  refine lv_iload_n hx hb dX7_stopAt_48 rfl (lv_at hl 0 rfl) ?_
                  refine jc_i (va_runV (As := [.int (iI a3_34)]) (rest := []) ⟨hx, hb, hml, hown, hts⟩ (sX7_byteAt l dC dI _ L cid K N tW sK sV v p0 a3_34 hI q0 (by omega)) (cwV 1 hts (jgoodV m_728 m_729 m_730 m_677 m_731) rfl rfl rfl (by decide +kernel) ⟨(Nat.le_of_ble_eq_true rfl), (Nat.le_of_ble_eq_true rfl)⟩) ⟨xP_blind, xrecv hK hP q0 rfl rfl, fun U hU hW => ⟨rfl, xP_of hU hW hP hK hDw hX hS hAw hAA⟩⟩ rfl rfl hl.1 rfl (lv_room (Nat.le_of_ble_eq_true rfl)) dX7_stopAt_49 ⟨(Nat.le_of_ble_eq_true rfl), (Nat.le_of_ble_eq_true rfl)⟩) hP hS hA (fun r_26 H locs w_27 hP hS => ?_)
                  obtain ⟨z_28, rfl, h_29⟩ := w_27
                  refine jc_i (va_runS (As := [.int (iI z_28)]) (rest := []) ⟨hx, hb, hml, hown, hts⟩ (sX0_isDigit l dC dI _ z_28 (by omega)) (va_cwS 1 hts (jgoodS m_792 m_665 m_666 m_667) rfl rfl rfl (by decide +kernel) ⟨(Nat.le_of_ble_eq_true rfl), (Nat.le_of_ble_eq_true rfl)⟩) ⟨jw_blind0, fun U hU hW => ⟨rfl, congrArg Array.size hU⟩⟩ rfl rfl hl.1 rfl (lv_room (Nat.le_of_ble_eq_true rfl)) dX7_stopAt_52 ⟨(Nat.le_of_ble_eq_true rfl), (Nat.le_of_ble_eq_true rfl)⟩) hP hS hA (fun r_30 H locs w_31 hP hS => ?_)
                  obtain ⟨z_32, rfl, h_33⟩ := w_31
                  refine xr_if_eq (tgt := 64) hx hb dX7_stopAt_55 (by decide) (by omega) (fun h_34 => ?_) (fun h_34 => ?_)
                  · refine lv_iload_n hx hb dX7_stopAt_64 rfl (lv_at hl 0 rfl) ?_
                    rw [← hQ]
                    exact W.iret (v := iI a3_34) hx hb hr (fun t ht hW => ⟨⟨iI a3_34, (), rfl, ⟨a3_34, rfl, by omega⟩, trivial⟩, hS.F ht⟩) hS.2.2 dX7_stopAt_65
                  · refine lv_iinc (v := iI (a3_34 + 1)) (lv' := [(3, .int (iI (a3_34 + 1))), (0, .ref p0.toNat), (1, .int (iI p1)), (2, .int (iI p2))]) hx hb dX7_stopAt_58 hl (k := 0) rfl (iI_add _ _) (by decide) rfl (fun ls hl => ?_)
                    refine lv_goto (tgt := 34) hx hb dX7_stopAt_61 (by decide) ?_
                    exact ih34 (a3_34 + 1) H locs ls (by omega) (by omega) hP hS hl
          exact L34 ((((v p0 1) - a3_4 : Int)).toNat + 1) a3_4 H locs ls (by omega) (by omega) hP hS hl
        · refine lv_aload_n hx hb dX7_stopAt_17 rfl (lv_at hl 1 rfl) ?_
          refine lv_iload_n hx hb dX7_stopAt_18 rfl (lv_at hl 0 rfl) ?_
          refine jc_i (va_runV (As := [.int (iI a3_4)]) (rest := []) ⟨hx, hb, hml, hown, hts⟩ (sX7_byteAt l dC dI _ L cid K N tW sK sV v p0 a3_4 hI q0 (by omega)) (cwV 1 hts (jgoodV m_728 m_729 m_730 m_677 m_731) rfl rfl rfl (by decide +kernel) ⟨(Nat.le_of_ble_eq_true rfl), (Nat.le_of_ble_eq_true rfl)⟩) ⟨xP_blind, xrecv hK hP q0 rfl rfl, fun U hU hW => ⟨rfl, xP_of hU hW hP hK hDw hX hS hAw hAA⟩⟩ rfl rfl hl.1 rfl (lv_room (Nat.le_of_ble_eq_true rfl)) dX7_stopAt_19 ⟨(Nat.le_of_ble_eq_true rfl), (Nat.le_of_ble_eq_true rfl)⟩) hP hS hA (fun r_35 H locs w_36 hP hS => ?_)
          obtain ⟨z_37, rfl, h_38⟩ := w_36
          refine jc_i (va_runS (As := [.int (iI z_37)]) (rest := []) ⟨hx, hb, hml, hown, hts⟩ (sX7_isLetter l dC dI _ z_37 (by omega)) (va_cwS 1 hts (jgoodS m_789 m_790 m_677 m_791) rfl rfl rfl (by decide +kernel) ⟨(Nat.le_of_ble_eq_true rfl), (Nat.le_of_ble_eq_true rfl)⟩) ⟨jw_blind0, fun U hU hW => ⟨rfl, congrArg Array.size hU⟩⟩ rfl rfl hl.1 rfl (lv_room (Nat.le_of_ble_eq_true rfl)) dX7_stopAt_22 ⟨(Nat.le_of_ble_eq_true rfl), (Nat.le_of_ble_eq_true rfl)⟩) hP hS hA (fun r_39 H locs w_40 hP hS => ?_)
          obtain ⟨z_41, rfl, h_42⟩ := w_40
          refine xr_if_eq (tgt := 34) hx hb dX7_stopAt_25 (by decide) (by omega) (fun h_43 => ?_) (fun h_43 => ?_)
          · have L34 : ∀ (n34 : Nat) (a3_34 : Int) (H : Heap) (locs : List Loc) (ls : Array Slot), ((-2147483648) ≤ a3_34 ∧ a3_34 ≤ 2147483647) → (0 < (n34 : Int) ∧ (v p0 1) - a3_34 < (n34 : Int)) → va_P (dC, dI) vwCl (xG L cid K N v) H → va_S A s.heap H locs → lv_has ls 4 [(3, .int (iI a3_34)), (0, .ref p0.toNat), (1, .int (iI p1)), (2, .int (iI p2))] → W p l e ({ frames := 1, cells := 0, slots := 0, locals := 21 }) s m ([.ref p0.toNat, .int (iI p1), .int (iI p2)] : List Value).toArray below meth c H locs 0 0 Q (F0 m 34 ls []) := by
              intro n34
              induction n34 with
              | zero =>
                intro a3_34 H locs ls h_44 hm34 hP hS hl
                exfalso; omega
              | succ n34 ih34 =>
                intro a3_34 H locs ls h_45 hm34 hP hS hl
                refine lv_iload_n hx hb dX7_stopAt_34 rfl (lv_at hl 0 rfl) ?_
                refine lv_aload_n hx hb dX7_stopAt_35 rfl (lv_at hl 1 rfl) ?_
                refine gx_RX7_43 (y := v p0 1) hx hb hj hown hK hP q0 rfl dX7_stopAt_36 ?_
                refine xr_icmp_ge (tgt := 64) hx hb dX7_stopAt_39 (by decide) (by omega) (by omega) (fun h_46 => ?_) (fun h_46 => ?_)
                · refine lv_iload_n hx hb dX7_stopAt_64 rfl (lv_at hl 0 rfl) ?_
                  rw [← hQ]
                  exact W.iret (v := iI a3_34) hx hb hr (fun t ht hW => ⟨⟨iI a3_34, (), rfl, ⟨a3_34, rfl, by omega⟩, trivial⟩, hS.F ht⟩) hS.2.2 dX7_stopAt_65
                · refine lv_iload_n hx hb dX7_stopAt_42 rfl (lv_at hl 3 rfl) ?_
                  refine lv_iconst (v := iI 2) hx hb dX7_stopAt_43 rfl ?_
                  refine xr_icmp_ne (tgt := 64) hx hb dX7_stopAt_44 (by decide) (by omega) (by omega) (fun h_47 => ?_) (fun h_47 => ?_)
                  · refine lv_iload_n hx hb dX7_stopAt_64 rfl (lv_at hl 0 rfl) ?_
                    rw [← hQ]
                    exact W.iret (v := iI a3_34) hx hb hr (fun t ht hW => ⟨⟨iI a3_34, (), rfl, ⟨a3_34, rfl, by omega⟩, trivial⟩, hS.F ht⟩) hS.2.2 dX7_stopAt_65
                  · refine lv_aload_n hx hb dX7_stopAt_47 rfl (lv_at hl 1 rfl) ?_
                    refine lv_iload_n hx hb dX7_stopAt_48 rfl (lv_at hl 0 rfl) ?_
                    refine jc_i (va_runV (As := [.int (iI a3_34)]) (rest := []) ⟨hx, hb, hml, hown, hts⟩ (sX7_byteAt l dC dI _ L cid K N tW sK sV v p0 a3_34 hI q0 (by omega)) (cwV 1 hts (jgoodV m_728 m_729 m_730 m_677 m_731) rfl rfl rfl (by decide +kernel) ⟨(Nat.le_of_ble_eq_true rfl), (Nat.le_of_ble_eq_true rfl)⟩) ⟨xP_blind, xrecv hK hP q0 rfl rfl, fun U hU hW => ⟨rfl, xP_of hU hW hP hK hDw hX hS hAw hAA⟩⟩ rfl rfl hl.1 rfl (lv_room (Nat.le_of_ble_eq_true rfl)) dX7_stopAt_49 ⟨(Nat.le_of_ble_eq_true rfl), (Nat.le_of_ble_eq_true rfl)⟩) hP hS hA (fun r_48 H locs w_49 hP hS => ?_)
                    obtain ⟨z_50, rfl, h_51⟩ := w_49
                    refine jc_i (va_runS (As := [.int (iI z_50)]) (rest := []) ⟨hx, hb, hml, hown, hts⟩ (sX0_isDigit l dC dI _ z_50 (by omega)) (va_cwS 1 hts (jgoodS m_792 m_665 m_666 m_667) rfl rfl rfl (by decide +kernel) ⟨(Nat.le_of_ble_eq_true rfl), (Nat.le_of_ble_eq_true rfl)⟩) ⟨jw_blind0, fun U hU hW => ⟨rfl, congrArg Array.size hU⟩⟩ rfl rfl hl.1 rfl (lv_room (Nat.le_of_ble_eq_true rfl)) dX7_stopAt_52 ⟨(Nat.le_of_ble_eq_true rfl), (Nat.le_of_ble_eq_true rfl)⟩) hP hS hA (fun r_52 H locs w_53 hP hS => ?_)
                    obtain ⟨z_54, rfl, h_55⟩ := w_53
                    refine xr_if_eq (tgt := 64) hx hb dX7_stopAt_55 (by decide) (by omega) (fun h_56 => ?_) (fun h_56 => ?_)
                    · refine lv_iload_n hx hb dX7_stopAt_64 rfl (lv_at hl 0 rfl) ?_
                      rw [← hQ]
                      exact W.iret (v := iI a3_34) hx hb hr (fun t ht hW => ⟨⟨iI a3_34, (), rfl, ⟨a3_34, rfl, by omega⟩, trivial⟩, hS.F ht⟩) hS.2.2 dX7_stopAt_65
                    · refine lv_iinc (v := iI (a3_34 + 1)) (lv' := [(3, .int (iI (a3_34 + 1))), (0, .ref p0.toNat), (1, .int (iI p1)), (2, .int (iI p2))]) hx hb dX7_stopAt_58 hl (k := 0) rfl (iI_add _ _) (by decide) rfl (fun ls hl => ?_)
                      refine lv_goto (tgt := 34) hx hb dX7_stopAt_61 (by decide) ?_
                      exact ih34 (a3_34 + 1) H locs ls (by omega) (by omega) hP hS hl
            exact L34 ((((v p0 1) - a3_4 : Int)).toNat + 1) a3_4 H locs ls (by omega) (by omega) hP hS hl
          · refine lv_iinc (v := iI (a3_4 + 1)) (lv' := [(3, .int (iI (a3_4 + 1))), (0, .ref p0.toNat), (1, .int (iI p1)), (2, .int (iI p2))]) hx hb dX7_stopAt_28 hl (k := 0) rfl (iI_add _ _) (by decide) rfl (fun ls hl => ?_)
            refine lv_goto (tgt := 4) hx hb dX7_stopAt_31 (by decide) ?_
            exact ih4 (a3_4 + 1) H locs ls (by omega) (by omega) hP hS hl
  exact L4 ((((v p0 1) - z_1 : Int)).toNat + 1) z_1 H locs ls (by omega) (by omega) hP hS hl
set_option maxHeartbeats 2000000 in
set_option maxRecDepth 100000 in
theorem sX7_isWordAt (l : Launch) (dC : Nat → ClassId) (dI : Nat → Nat → Nat) (sz : Nat) (L : List Nat) (cid : Nat → ClassId) (K : Int → Nat) (N : Int → Int) (tW : Nat) (sK sV : Nat → Nat) (v : Int → Int → Int) (p0 : Int) (p1 : Int) (p2 : Int) (p3 : Int) (hI : xI L K N v) (q0 : ok L K p0 7) (q1 : rg p1) (q2 : rg p2) (q3 : rg p3) : Met l yX7_isWordAt (jk yX7_isWordAt cX7_isWordAt 5 (some .boolean)) ({ frames := 4, cells := 0, slots := 0, locals := 85 }) (va_Pc [.ref p0.toNat, .int (iI p1), .int (iI p2), .int (iI p3)] (xP (dC, dI) (xG L cid K N v) (xT cid) tW sK sV sz)) (va_Qi (fun (r : Int32) (_ : Unit) => ∃ z : Int, r = iI z ∧ (0 ≤ z ∧ z ≤ 1)) (fun _ _ => True) (va_A [] sz)) 0 0 (va_A [] sz) := by
  refine Met.ofW (cc := cX7_isWordAt) (maxL := 5) (ret := (some .boolean)) (by decide) rfl ?_
  intro p e s m args below meth c s₁ B hml hv
  obtain ⟨rfl, ⟨hsz, hP, hK, hD0⟩, hX⟩ := hv
  have hx := B.exec
  have hb := B.bytes
  have hr := B.returns
  have hts := atoms_spec (ws := (jk yX7_isWordAt cX7_isWordAt 5 (some .boolean))) B.pre
  have hj : ∀ w ∈ jw, w.before ([.ref p0.toNat, .int (iI p1), .int (iI p2), .int (iI p3)] : List Value).toArray s = true := fun w h => hts w (jm h)
  have hown : s.vm.findClass RX7 = some m.cls := findClass_of_methodNamed B.named
  subst hsz
  have hDw := hD0.self (sz := s.heap.size)
  have hAA : ∀ q : Nat, s.heap.size ≤ q → va_A (xG L cid K N v) s.heap.size q := fun q h => Or.inr h
  have hAw : ∀ q, va_A [] s.heap.size q → va_A (xG L cid K N v) s.heap.size q := ja_nil va_S.rf hAA
  generalize hAe : (va_A [] s.heap.size) = A at hAw ⊢
  have hA : ∀ q : Nat, s.heap.size ≤ q → A q := fun q h => by rw [← hAe]; exact Or.inr h
  have hS : va_S A s.heap s.heap [] := va_S.rf
  have hXa := hX.nar hAw
  have hP : va_P (dC, dI) vwCl (xG L cid K N v) s.heap := hP
  have hl := lv_entry ([.ref p0.toNat, .int (iI p1), .int (iI p2), .int (iI p3)]) (n := 5) (Nat.le_of_ble_eq_true rfl)
  rw [lg_entry_eq]
  generalize (lg_sl ([.ref p0.toNat, .int (iI p1), .int (iI p2), .int (iI p3)]) ++ List.replicate (5 - (lg_sl ([.ref p0.toNat, .int (iI p1), .int (iI p2), .int (iI p3)])).length) Slot.unset).toArray = ls at hl ⊢
  have hl : lv_has ls 5 [(0, .ref p0.toNat), (1, .int (iI p1)), (2, .int (iI p2)), (3, .int (iI p3))] := hl
  generalize hQ : MQ below (va_Qi (fun (r : Int32) (_ : Unit) => ∃ z : Int, r = iI z ∧ (0 ≤ z ∧ z ≤ 1)) (fun _ _ => True) A) ([.ref p0.toNat, .int (iI p1), .int (iI p2), .int (iI p3)] : List Value).toArray s 0 0 A = Q
  suffices ST : ∀ (H : Heap) (locs : List Loc), va_P (dC, dI) vwCl (xG L cid K N v) H → va_S A s.heap H locs → W p l e ({ frames := 4, cells := 0, slots := 0, locals := 85 }) s m ([.ref p0.toNat, .int (iI p1), .int (iI p2), .int (iI p3)] : List Value).toArray below meth c H locs 0 0 Q (F0 m 0 ls []) from ST _ _ hP hS
  clear hP hS
  intro H locs hP hS
  refine lv_iload_n hx hb dX7_isWordAt_0 rfl (lv_at hl 1 rfl) ?_
  refine lv_istore (i := 4) (lv' := [(4, .int (iI p1)), (0, .ref p0.toNat), (1, .int (iI p1)), (2, .int (iI p2)), (3, .int (iI p3))]) hx hb dX7_isWordAt_1 hl (by decide) rfl (fun ls hl => ?_)
  have L3 : ∀ (n3 : Nat) (a4_3 : Int) (H : Heap) (locs : List Loc) (ls : Array Slot), ((-2147483648) ≤ a4_3 ∧ a4_3 ≤ 2147483647) → (0 < (n3 : Int) ∧ 152 + 1 - a4_3 < (n3 : Int)) → va_P (dC, dI) vwCl (xG L cid K N v) H → va_S A s.heap H locs → lv_has ls 5 [(4, .int (iI a4_3)), (0, .ref p0.toNat), (1, .int (iI p1)), (2, .int (iI p2)), (3, .int (iI p3))] → W p l e ({ frames := 4, cells := 0, slots := 0, locals := 85 }) s m ([.ref p0.toNat, .int (iI p1), .int (iI p2), .int (iI p3)] : List Value).toArray below meth c H locs 0 0 Q (F0 m 3 ls []) := by
    intro n3
    induction n3 with
    | zero =>
      intro a4_3 H locs ls h_1 hm3 hP hS hl
      exfalso; omega
    | succ n3 ih3 =>
      intro a4_3 H locs ls h_2 hm3 hP hS hl
      refine lv_iload hx hb dX7_isWordAt_3 (lv_at hl 0 rfl) ?_
      refine xr_if_lt (tgt := 52) hx hb dX7_isWordAt_5 (by decide) (by omega) (fun h_3 => ?_) (fun h_3 => ?_)
      · refine lv_iconst (v := iI 1) hx hb dX7_isWordAt_52 rfl ?_
        rw [← hQ]
        exact W.zret (v := iI 1) (ty := .boolean) hx hb hr (nb_bool (by omega) (by omega)) (fun t ht hW => ⟨⟨iI 1, (), rfl, ⟨1, rfl, by omega⟩, trivial⟩, hS.F ht⟩) hS.2.2 dX7_isWordAt_53
      · refine lv_iload hx hb dX7_isWordAt_8 (lv_at hl 0 rfl) ?_
        refine lv_iload_n hx hb dX7_isWordAt_10 rfl (lv_at hl 3 rfl) ?_
        refine xr_icmp_ge (tgt := 52) hx hb dX7_isWordAt_11 (by decide) (by omega) (by omega) (fun h_4 => ?_) (fun h_4 => ?_)
        · refine lv_iconst (v := iI 1) hx hb dX7_isWordAt_52 rfl ?_
          rw [← hQ]
          exact W.zret (v := iI 1) (ty := .boolean) hx hb hr (nb_bool (by omega) (by omega)) (fun t ht hW => ⟨⟨iI 1, (), rfl, ⟨1, rfl, by omega⟩, trivial⟩, hS.F ht⟩) hS.2.2 dX7_isWordAt_53
        · refine lv_iload hx hb dX7_isWordAt_14 (lv_at hl 0 rfl) ?_
          refine va_ldcS hx hb hown hXa.2.2.2.1.2.1 dX7_isWordAt_16 ?_
          have h_5 : sx_n 1 = 152 := rfl
          refine jc_i (va_runV (As := []) (rest := [.int (iI a4_3)]) ⟨hx, hb, hml, hown, hts⟩ (sJ0_length_8abf5 l dC dI _ sK sV 1 (by decide)) (cwV 0 hts (jgoodV m_807 m_775 m_776 m_754 m_777) rfl rfl rfl (by decide +kernel) ⟨(Nat.le_of_ble_eq_true rfl), (Nat.le_of_ble_eq_true rfl)⟩) ⟨xS_blind, vk_recv hXa.2.2.1 (by decide) hS, fun U hU hW => ⟨rfl, xS_of hU hW hXa.2.2 hS hA⟩⟩ rfl rfl hl.1 rfl (lv_room (Nat.le_of_ble_eq_true rfl)) dX7_isWordAt_18 ⟨(Nat.le_of_ble_eq_true rfl), (Nat.le_of_ble_eq_true rfl)⟩) hP hS hA (fun r_6 H locs w_7 hP hS => ?_)
          obtain ⟨z_8, rfl, h_9, h_10⟩ := w_7
          refine xr_icmp_ge (tgt := 52) hx hb dX7_isWordAt_21 (by decide) (by omega) (by omega) (fun h_11 => ?_) (fun h_11 => ?_)
          · refine lv_iconst (v := iI 1) hx hb dX7_isWordAt_52 rfl ?_
            rw [← hQ]
            exact W.zret (v := iI 1) (ty := .boolean) hx hb hr (nb_bool (by omega) (by omega)) (fun t ht hW => ⟨⟨iI 1, (), rfl, ⟨1, rfl, by omega⟩, trivial⟩, hS.F ht⟩) hS.2.2 dX7_isWordAt_53
          · refine va_ldcS hx hb hown hXa.2.2.2.1.2.1 dX7_isWordAt_24 ?_
            refine lv_iload hx hb dX7_isWordAt_26 (lv_at hl 0 rfl) ?_
            refine jc_i (va_runV (As := [.int (iI a4_3)]) (rest := []) ⟨hx, hb, hml, hown, hts⟩ (sJ0_charAt_5068e l dC dI _ sK sV 1 a4_3 (by decide) (by omega) (by omega) (by omega)) (cwV 1 hts (jgoodV m_808 m_809 m_810 m_754 m_811) rfl rfl rfl (by decide +kernel) ⟨(Nat.le_of_ble_eq_true rfl), (Nat.le_of_ble_eq_true rfl)⟩) ⟨xS_blind, vk_recv hXa.2.2.1 (by decide) hS, fun U hU hW => ⟨rfl, xS_of hU hW hXa.2.2 hS hA⟩⟩ rfl rfl hl.1 rfl (lv_room (Nat.le_of_ble_eq_true rfl)) dX7_isWordAt_28 ⟨(Nat.le_of_ble_eq_true rfl), (Nat.le_of_ble_eq_true rfl)⟩) hP hS hA (fun r_12 H locs w_13 hP hS => ?_)
            obtain ⟨z_14, rfl, h_15, h_16⟩ := w_13
            refine lv_aload_n hx hb dX7_isWordAt_31 rfl (lv_at hl 1 rfl) ?_
            refine lv_iload_n hx hb dX7_isWordAt_32 rfl (lv_at hl 4 rfl) ?_
            refine lv_iload hx hb dX7_isWordAt_33 (lv_at hl 0 rfl) ?_
            refine xr_add hx hb dX7_isWordAt_35 ?_
            refine xr_kept (fun z_17 h_18 h_19 => ?_)
            refine lv_iload_n hx hb dX7_isWordAt_36 rfl (lv_at hl 2 rfl) ?_
            refine xr_sub hx hb dX7_isWordAt_37 ?_
            refine xr_kept (fun z_20 h_21 h_22 => ?_)
            refine jc_i (va_runV (As := [.int (iI z_20)]) (rest := [.int (iI z_14)]) ⟨hx, hb, hml, hown, hts⟩ (sX7_byteAt l dC dI _ L cid K N tW sK sV v p0 z_20 hI q0 (by omega)) (cwV 1 hts (jgoodV m_728 m_729 m_730 m_677 m_731) rfl rfl rfl (by decide +kernel) ⟨(Nat.le_of_ble_eq_true rfl), (Nat.le_of_ble_eq_true rfl)⟩) ⟨xP_blind, xrecv hK hP q0 rfl rfl, fun U hU hW => ⟨rfl, xP_of hU hW hP hK hDw hX hS hAw hAA⟩⟩ rfl rfl hl.1 rfl (lv_room (Nat.le_of_ble_eq_true rfl)) dX7_isWordAt_38 ⟨(Nat.le_of_ble_eq_true rfl), (Nat.le_of_ble_eq_true rfl)⟩) hP hS hA (fun r_23 H locs w_24 hP hS => ?_)
            obtain ⟨z_25, rfl, h_26⟩ := w_24
            refine xr_icmp_eq (tgt := 46) hx hb dX7_isWordAt_41 (by decide) (by omega) (by omega) (fun h_27 => ?_) (fun h_27 => ?_)
            · refine lv_iinc (v := iI (a4_3 + 1)) (lv' := [(4, .int (iI (a4_3 + 1))), (0, .ref p0.toNat), (1, .int (iI p1)), (2, .int (iI p2)), (3, .int (iI p3))]) hx hb dX7_isWordAt_46 hl (k := 0) rfl (iI_add _ _) (by decide) rfl (fun ls hl => ?_)
              refine lv_goto (tgt := 3) hx hb dX7_isWordAt_49 (by decide) ?_
              exact ih3 (a4_3 + 1) H locs ls (by omega) (by omega) hP hS hl
            · refine lv_iconst (v := iI 0) hx hb dX7_isWordAt_44 rfl ?_
              rw [← hQ]
              exact W.zret (v := iI 0) (ty := .boolean) hx hb hr (nb_bool (by omega) (by omega)) (fun t ht hW => ⟨⟨iI 0, (), rfl, ⟨0, rfl, by omega⟩, trivial⟩, hS.F ht⟩) hS.2.2 dX7_isWordAt_45
  exact L3 (((152 + 1 - p1 : Int)).toNat + 1) p1 H locs ls (by omega) (by omega) hP hS hl
set_option maxHeartbeats 2000000 in
set_option maxRecDepth 100000 in
theorem sX7_wordAt (l : Launch) (dC : Nat → ClassId) (dI : Nat → Nat → Nat) (sz : Nat) (L : List Nat) (cid : Nat → ClassId) (K : Int → Nat) (N : Int → Int) (tW : Nat) (sK sV : Nat → Nat) (v : Int → Int → Int) (p0 : Int) (p1 : Int) (p2 : Int) (hI : xI L K N v) (q0 : ok L K p0 7) (q1 : rg p1) (q2 : rg p2) : Met l yX7_wordAt (jk yX7_wordAt cX7_wordAt 6 (some .int)) ({ frames := 5, cells := 0, slots := 0, locals := 109 }) (va_Pc [.ref p0.toNat, .int (iI p1), .int (iI p2)] (xP (dC, dI) (xG L cid K N v) (xT cid) tW sK sV sz)) (va_Qi (fun (r : Int32) (_ : Unit) => ∃ z : Int, r = iI z ∧ (rg z)) (fun _ _ => True) (va_A [] sz)) 0 0 (va_A [] sz) := by
  refine Met.ofW (cc := cX7_wordAt) (maxL := 6) (ret := (some .int)) (by decide) rfl ?_
  intro p e s m args below meth c s₁ B hml hv
  obtain ⟨rfl, ⟨hsz, hP, hK, hD0⟩, hX⟩ := hv
  have hx := B.exec
  have hb := B.bytes
  have hr := B.returns
  have hts := atoms_spec (ws := (jk yX7_wordAt cX7_wordAt 6 (some .int))) B.pre
  have hj : ∀ w ∈ jw, w.before ([.ref p0.toNat, .int (iI p1), .int (iI p2)] : List Value).toArray s = true := fun w h => hts w (jm h)
  have hown : s.vm.findClass RX7 = some m.cls := findClass_of_methodNamed B.named
  subst hsz
  have hDw := hD0.self (sz := s.heap.size)
  have hAA : ∀ q : Nat, s.heap.size ≤ q → va_A (xG L cid K N v) s.heap.size q := fun q h => Or.inr h
  have hAw : ∀ q, va_A [] s.heap.size q → va_A (xG L cid K N v) s.heap.size q := ja_nil va_S.rf hAA
  generalize hAe : (va_A [] s.heap.size) = A at hAw ⊢
  have hA : ∀ q : Nat, s.heap.size ≤ q → A q := fun q h => by rw [← hAe]; exact Or.inr h
  have hS : va_S A s.heap s.heap [] := va_S.rf
  have hXa := hX.nar hAw
  have hP : va_P (dC, dI) vwCl (xG L cid K N v) s.heap := hP
  have hl := lv_entry ([.ref p0.toNat, .int (iI p1), .int (iI p2)]) (n := 6) (Nat.le_of_ble_eq_true rfl)
  rw [lg_entry_eq]
  generalize (lg_sl ([.ref p0.toNat, .int (iI p1), .int (iI p2)]) ++ List.replicate (6 - (lg_sl ([.ref p0.toNat, .int (iI p1), .int (iI p2)])).length) Slot.unset).toArray = ls at hl ⊢
  have hl : lv_has ls 6 [(0, .ref p0.toNat), (1, .int (iI p1)), (2, .int (iI p2))] := hl
  generalize hQ : MQ below (va_Qi (fun (r : Int32) (_ : Unit) => ∃ z : Int, r = iI z ∧ (rg z)) (fun _ _ => True) A) ([.ref p0.toNat, .int (iI p1), .int (iI p2)] : List Value).toArray s 0 0 A = Q
  suffices ST : ∀ (H : Heap) (locs : List Loc), va_P (dC, dI) vwCl (xG L cid K N v) H → va_S A s.heap H locs → W p l e ({ frames := 5, cells := 0, slots := 0, locals := 109 }) s m ([.ref p0.toNat, .int (iI p1), .int (iI p2)] : List Value).toArray below meth c H locs 0 0 Q (F0 m 0 ls []) from ST _ _ hP hS
  clear hP hS
  intro H locs hP hS
  refine lv_iconst (v := iI 0) hx hb dX7_wordAt_0 rfl ?_
  refine lv_istore_n (i := 3) (lv' := [(3, .int (iI 0)), (0, .ref p0.toNat), (1, .int (iI p1)), (2, .int (iI p2))]) hx hb dX7_wordAt_1 rfl hl (by decide) rfl (fun ls hl => ?_)
  refine lv_iconst (v := iI 0) hx hb dX7_wordAt_2 rfl ?_
  refine lv_istore (i := 4) (lv' := [(4, .int (iI 0)), (3, .int (iI 0)), (0, .ref p0.toNat), (1, .int (iI p1)), (2, .int (iI p2))]) hx hb dX7_wordAt_3 hl (by decide) rfl (fun ls hl => ?_)
  refine lv_iconst (v := iI 0) hx hb dX7_wordAt_5 rfl ?_
  refine lv_istore (i := 5) (lv' := [(5, .int (iI 0)), (4, .int (iI 0)), (3, .int (iI 0)), (0, .ref p0.toNat), (1, .int (iI p1)), (2, .int (iI p2))]) hx hb dX7_wordAt_6 hl (by decide) rfl (fun ls hl => ?_)
  have L8 : ∀ (n8 : Nat) (a5_8 a4_8 a3_8 : Int) (H : Heap) (locs : List Loc) (ls : Array Slot), ((-2147483648) ≤ a5_8 ∧ a5_8 ≤ 2147483647) → ((-2147483648) ≤ a4_8 ∧ a4_8 ≤ 2147483647) → ((-2147483648) ≤ a3_8 ∧ a3_8 ≤ 2147483647) → (0 ≤ a5_8) → (0 < (n8 : Int) ∧ 152 + 1 - a5_8 < (n8 : Int)) → va_P (dC, dI) vwCl (xG L cid K N v) H → va_S A s.heap H locs → lv_has ls 6 [(5, .int (iI a5_8)), (4, .int (iI a4_8)), (3, .int (iI a3_8)), (0, .ref p0.toNat), (1, .int (iI p1)), (2, .int (iI p2))] → W p l e ({ frames := 5, cells := 0, slots := 0, locals := 109 }) s m ([.ref p0.toNat, .int (iI p1), .int (iI p2)] : List Value).toArray below meth c H locs 0 0 Q (F0 m 8 ls []) := by
    intro n8
    induction n8 with
    | zero =>
      intro a5_8 a4_8 a3_8 H locs ls h_1 h_2 h_3 h_4 hm8 hP hS hl
      exfalso; omega
    | succ n8 ih8 =>
      intro a5_8 a4_8 a3_8 H locs ls h_5 h_6 h_7 h_8 hm8 hP hS hl
      refine lv_iload hx hb dX7_wordAt_8 (lv_at hl 0 rfl) ?_
      refine va_ldcS hx hb hown hXa.2.2.2.1.2.1 dX7_wordAt_10 ?_
      have h_9 : sx_n 1 = 152 := rfl
      refine jc_i (va_runV (As := []) (rest := [.int (iI a5_8)]) ⟨hx, hb, hml, hown, hts⟩ (sJ0_length_8abf5 l dC dI _ sK sV 1 (by decide)) (cwV 0 hts (jgoodV m_807 m_775 m_776 m_754 m_777) rfl rfl rfl (by decide +kernel) ⟨(Nat.le_of_ble_eq_true rfl), (Nat.le_of_ble_eq_true rfl)⟩) ⟨xS_blind, vk_recv hXa.2.2.1 (by decide) hS, fun U hU hW => ⟨rfl, xS_of hU hW hXa.2.2 hS hA⟩⟩ rfl rfl hl.1 rfl (lv_room (Nat.le_of_ble_eq_true rfl)) dX7_wordAt_12 ⟨(Nat.le_of_ble_eq_true rfl), (Nat.le_of_ble_eq_true rfl)⟩) hP hS hA (fun r_10 H locs w_11 hP hS => ?_)
      obtain ⟨z_12, rfl, h_13, h_14⟩ := w_11
      refine xr_icmp_gt (tgt := 80) hx hb dX7_wordAt_15 (by decide) (by omega) (by omega) (fun h_15 => ?_) (fun h_15 => ?_)
      · refine lv_iconst (v := iI (-1)) hx hb dX7_wordAt_80 rfl ?_
        rw [← hQ]
        exact W.iret (v := iI (-1)) hx hb hr (fun t ht hW => ⟨⟨iI (-1), (), rfl, ⟨(-1), rfl, by omega⟩, trivial⟩, hS.F ht⟩) hS.2.2 dX7_wordAt_81
      · refine lv_iload hx hb dX7_wordAt_18 (lv_at hl 0 rfl) ?_
        refine va_ldcS hx hb hown hXa.2.2.2.1.2.1 dX7_wordAt_20 ?_
        refine jc_i (va_runV (As := []) (rest := [.int (iI a5_8)]) ⟨hx, hb, hml, hown, hts⟩ (sJ0_length_8abf5 l dC dI _ sK sV 1 (by decide)) (cwV 0 hts (jgoodV m_807 m_775 m_776 m_754 m_777) rfl rfl rfl (by decide +kernel) ⟨(Nat.le_of_ble_eq_true rfl), (Nat.le_of_ble_eq_true rfl)⟩) ⟨xS_blind, vk_recv hXa.2.2.1 (by decide) hS, fun U hU hW => ⟨rfl, xS_of hU hW hXa.2.2 hS hA⟩⟩ rfl rfl hl.1 rfl (lv_room (Nat.le_of_ble_eq_true rfl)) dX7_wordAt_22 ⟨(Nat.le_of_ble_eq_true rfl), (Nat.le_of_ble_eq_true rfl)⟩) hP hS hA (fun r_16 H locs w_17 hP hS => ?_)
        obtain ⟨z_18, rfl, h_19, h_20⟩ := w_17
        have J74 : ∀ (a4_74 a3_74 : Int) (H : Heap) (locs : List Loc) (ls : Array Slot), ((-2147483648) ≤ a4_74 ∧ a4_74 ≤ 2147483647) → ((-2147483648) ≤ a3_74 ∧ a3_74 ≤ 2147483647) → va_P (dC, dI) vwCl (xG L cid K N v) H → va_S A s.heap H locs → lv_has ls 6 [(5, .int (iI a5_8)), (4, .int (iI a4_74)), (3, .int (iI a3_74)), (0, .ref p0.toNat), (1, .int (iI p1)), (2, .int (iI p2))] → W p l e ({ frames := 5, cells := 0, slots := 0, locals := 109 }) s m ([.ref p0.toNat, .int (iI p1), .int (iI p2)] : List Value).toArray below meth c H locs 0 0 Q (F0 m 74 ls []) := by
          intro a4_74 a3_74 H locs ls h_21 h_22 hP hS hl
          refine lv_iinc (v := iI (a5_8 + 1)) (lv' := [(5, .int (iI (a5_8 + 1))), (4, .int (iI a4_74)), (3, .int (iI a3_74)), (0, .ref p0.toNat), (1, .int (iI p1)), (2, .int (iI p2))]) hx hb dX7_wordAt_74 hl (k := 0) rfl (iI_add _ _) (by decide) rfl (fun ls hl => ?_)
          obtain ⟨z_23, h_24, h_25, e9⟩ := xr_keep (a5_8 + 1)
          rw [e9] at hl
          refine lv_goto (tgt := 8) hx hb dX7_wordAt_77 (by decide) ?_
          exact ih8 z_23 a4_74 a3_74 H locs ls (by omega) (by omega) (by omega) (by omega) (by omega) hP hS hl
        have J40 : ∀ (H : Heap) (locs : List Loc) (ls : Array Slot), va_P (dC, dI) vwCl (xG L cid K N v) H → va_S A s.heap H locs → lv_has ls 6 [(5, .int (iI a5_8)), (4, .int (iI a4_8)), (3, .int (iI a3_8)), (0, .ref p0.toNat), (1, .int (iI p1)), (2, .int (iI p2))] → W p l e ({ frames := 5, cells := 0, slots := 0, locals := 109 }) s m ([.ref p0.toNat, .int (iI p1), .int (iI p2)] : List Value).toArray below meth c H locs 0 0 Q (F0 m 40 ls []) := by
          intro H locs ls hP hS hl
          refine lv_iload hx hb dX7_wordAt_40 (lv_at hl 0 rfl) ?_
          refine lv_iload hx hb dX7_wordAt_42 (lv_at hl 1 rfl) ?_
          refine xr_sub hx hb dX7_wordAt_44 ?_
          refine xr_kept (fun z_26 h_27 h_28 => ?_)
          refine lv_iload_n hx hb dX7_wordAt_45 rfl (lv_at hl 5 rfl) ?_
          refine lv_iload_n hx hb dX7_wordAt_46 rfl (lv_at hl 4 rfl) ?_
          refine xr_sub hx hb dX7_wordAt_47 ?_
          refine xr_kept (fun z_29 h_30 h_31 => ?_)
          have J65 : ∀ (H : Heap) (locs : List Loc) (ls : Array Slot), va_P (dC, dI) vwCl (xG L cid K N v) H → va_S A s.heap H locs → lv_has ls 6 [(5, .int (iI a5_8)), (4, .int (iI a4_8)), (3, .int (iI a3_8)), (0, .ref p0.toNat), (1, .int (iI p1)), (2, .int (iI p2))] → W p l e ({ frames := 5, cells := 0, slots := 0, locals := 109 }) s m ([.ref p0.toNat, .int (iI p1), .int (iI p2)] : List Value).toArray below meth c H locs 0 0 Q (F0 m 65 ls []) := by
            intro H locs ls hP hS hl
            refine lv_iinc (v := iI (a3_8 + 1)) (lv' := [(3, .int (iI (a3_8 + 1))), (5, .int (iI a5_8)), (4, .int (iI a4_8)), (0, .ref p0.toNat), (1, .int (iI p1)), (2, .int (iI p2))]) hx hb dX7_wordAt_65 hl (k := 2) rfl (iI_add _ _) (by decide) rfl (fun ls hl => ?_)
            obtain ⟨z_32, h_33, h_34, e9⟩ := xr_keep (a3_8 + 1)
            rw [e9] at hl
            refine lv_iload hx hb dX7_wordAt_68 (lv_at hl 1 rfl) ?_
            refine lv_iconst (v := iI 1) hx hb dX7_wordAt_70 rfl ?_
            refine xr_add hx hb dX7_wordAt_71 ?_
            refine xr_kept (fun z_35 h_36 h_37 => ?_)
            refine lv_istore (i := 4) (lv' := [(4, .int (iI z_35)), (3, .int (iI z_32)), (5, .int (iI a5_8)), (0, .ref p0.toNat), (1, .int (iI p1)), (2, .int (iI p2))]) hx hb dX7_wordAt_72 hl (by decide) rfl (fun ls hl => ?_)
            exact J74 z_35 z_32 H locs ls (by omega) (by omega) hP hS (lv_sub hl [2, 0, 1, 3, 4, 5] rfl)
          refine xr_icmp_ne (tgt := 65) hx hb dX7_wordAt_48 (by decide) (by omega) (by omega) (fun h_38 => ?_) (fun h_38 => ?_)
          · exact J65 H locs ls hP hS hl
          · refine lv_aload_n hx hb dX7_wordAt_51 rfl (lv_at hl 3 rfl) ?_
            refine lv_iload hx hb dX7_wordAt_52 (lv_at hl 1 rfl) ?_
            refine lv_iload hx hb dX7_wordAt_54 (lv_at hl 0 rfl) ?_
            refine lv_iload_n hx hb dX7_wordAt_56 rfl (lv_at hl 4 rfl) ?_
            refine jc_i (va_runV (As := [.int (iI a4_8), .int (iI a5_8), .int (iI p1)]) (rest := []) ⟨hx, hb, hml, hown, hts⟩ (sX7_isWordAt l dC dI _ L cid K N tW sK sV v p0 a4_8 a5_8 p1 hI q0 (by omega) (by omega) (by omega)) (cwV 3 hts (jgoodV m_812 m_813 m_814 m_677 m_815) rfl rfl rfl (by decide +kernel) ⟨(Nat.le_of_ble_eq_true rfl), (Nat.le_of_ble_eq_true rfl)⟩) ⟨xP_blind, xrecv hK hP q0 rfl rfl, fun U hU hW => ⟨rfl, xP_of hU hW hP hK hDw hX hS hAw hAA⟩⟩ rfl rfl hl.1 rfl (lv_room (Nat.le_of_ble_eq_true rfl)) dX7_wordAt_57 ⟨(Nat.le_of_ble_eq_true rfl), (Nat.le_of_ble_eq_true rfl)⟩) hP hS hA (fun r_39 H locs w_40 hP hS => ?_)
            obtain ⟨z_41, rfl, h_42⟩ := w_40
            refine xr_if_eq (tgt := 65) hx hb dX7_wordAt_60 (by decide) (by omega) (fun h_43 => ?_) (fun h_43 => ?_)
            · exact J65 H locs ls hP hS hl
            · refine lv_iload_n hx hb dX7_wordAt_63 rfl (lv_at hl 2 rfl) ?_
              rw [← hQ]
              exact W.iret (v := iI a3_8) hx hb hr (fun t ht hW => ⟨⟨iI a3_8, (), rfl, ⟨a3_8, rfl, by omega⟩, trivial⟩, hS.F ht⟩) hS.2.2 dX7_wordAt_64
        refine xr_icmp_eq (tgt := 40) hx hb dX7_wordAt_25 (by decide) (by omega) (by omega) (fun h_44 => ?_) (fun h_44 => ?_)
        · exact J40 H locs ls hP hS hl
        · refine va_ldcS hx hb hown hXa.2.2.2.1.2.1 dX7_wordAt_28 ?_
          refine lv_iload hx hb dX7_wordAt_30 (lv_at hl 0 rfl) ?_
          refine jc_i (va_runV (As := [.int (iI a5_8)]) (rest := []) ⟨hx, hb, hml, hown, hts⟩ (sJ0_charAt_5068e l dC dI _ sK sV 1 a5_8 (by decide) (by omega) (by omega) (by omega)) (cwV 1 hts (jgoodV m_808 m_809 m_810 m_754 m_811) rfl rfl rfl (by decide +kernel) ⟨(Nat.le_of_ble_eq_true rfl), (Nat.le_of_ble_eq_true rfl)⟩) ⟨xS_blind, vk_recv hXa.2.2.1 (by decide) hS, fun U hU hW => ⟨rfl, xS_of hU hW hXa.2.2 hS hA⟩⟩ rfl rfl hl.1 rfl (lv_room (Nat.le_of_ble_eq_true rfl)) dX7_wordAt_32 ⟨(Nat.le_of_ble_eq_true rfl), (Nat.le_of_ble_eq_true rfl)⟩) hP hS hA (fun r_45 H locs w_46 hP hS => ?_)
          obtain ⟨z_47, rfl, h_48, h_49⟩ := w_46
          refine lv_bipush (v := iI 32) hx hb dX7_wordAt_35 rfl ?_
          refine xr_icmp_ne (tgt := 74) hx hb dX7_wordAt_37 (by decide) (by omega) (by omega) (fun h_50 => ?_) (fun h_50 => ?_)
          · exact J74 a4_8 a3_8 H locs ls (by omega) (by omega) hP hS hl
          · exact J40 H locs ls hP hS hl
  exact L8 (((152 + 1 - 0 : Int)).toNat + 1) 0 0 0 H locs ls (by omega) (by omega) (by omega) (by omega) (by omega) hP hS hl
set_option maxHeartbeats 2000000 in
set_option maxRecDepth 100000 in
theorem sX7_numberAt (l : Launch) (dC : Nat → ClassId) (dI : Nat → Nat → Nat) (sz : Nat) (L : List Nat) (cid : Nat → ClassId) (K : Int → Nat) (N : Int → Int) (tW : Nat) (sK sV : Nat → Nat) (v : Int → Int → Int) (p0 : Int) (p1 : Int) (p2 : Int) (hI : xI L K N v) (q0 : ok L K p0 7) (q1 : rg p1) (q2 : rg p2) : Met l yX7_numberAt (jk yX7_numberAt cX7_numberAt 5 (some .int)) ({ frames := 1, cells := 0, slots := 0, locals := 21 }) (va_Pc [.ref p0.toNat, .int (iI p1), .int (iI p2)] (xP (dC, dI) (xG L cid K N v) (xT cid) tW sK sV sz)) (va_Qi (fun (r : Int32) (_ : Unit) => ∃ z : Int, r = iI z ∧ (rg z)) (fun _ _ => True) (va_A [] sz)) 0 0 (va_A [] sz) := by
  refine Met.ofW (cc := cX7_numberAt) (maxL := 5) (ret := (some .int)) (by decide) rfl ?_
  intro p e s m args below meth c s₁ B hml hv
  obtain ⟨rfl, ⟨hsz, hP, hK, hD0⟩, hX⟩ := hv
  have hx := B.exec
  have hb := B.bytes
  have hr := B.returns
  have hts := atoms_spec (ws := (jk yX7_numberAt cX7_numberAt 5 (some .int))) B.pre
  have hj : ∀ w ∈ jw, w.before ([.ref p0.toNat, .int (iI p1), .int (iI p2)] : List Value).toArray s = true := fun w h => hts w (jm h)
  have hown : s.vm.findClass RX7 = some m.cls := findClass_of_methodNamed B.named
  subst hsz
  have hDw := hD0.self (sz := s.heap.size)
  have hAA : ∀ q : Nat, s.heap.size ≤ q → va_A (xG L cid K N v) s.heap.size q := fun q h => Or.inr h
  have hAw : ∀ q, va_A [] s.heap.size q → va_A (xG L cid K N v) s.heap.size q := ja_nil va_S.rf hAA
  generalize hAe : (va_A [] s.heap.size) = A at hAw ⊢
  have hA : ∀ q : Nat, s.heap.size ≤ q → A q := fun q h => by rw [← hAe]; exact Or.inr h
  have hS : va_S A s.heap s.heap [] := va_S.rf
  have hXa := hX.nar hAw
  have hP : va_P (dC, dI) vwCl (xG L cid K N v) s.heap := hP
  have hl := lv_entry ([.ref p0.toNat, .int (iI p1), .int (iI p2)]) (n := 5) (Nat.le_of_ble_eq_true rfl)
  rw [lg_entry_eq]
  generalize (lg_sl ([.ref p0.toNat, .int (iI p1), .int (iI p2)]) ++ List.replicate (5 - (lg_sl ([.ref p0.toNat, .int (iI p1), .int (iI p2)])).length) Slot.unset).toArray = ls at hl ⊢
  have hl : lv_has ls 5 [(0, .ref p0.toNat), (1, .int (iI p1)), (2, .int (iI p2))] := hl
  generalize hQ : MQ below (va_Qi (fun (r : Int32) (_ : Unit) => ∃ z : Int, r = iI z ∧ (rg z)) (fun _ _ => True) A) ([.ref p0.toNat, .int (iI p1), .int (iI p2)] : List Value).toArray s 0 0 A = Q
  suffices ST : ∀ (H : Heap) (locs : List Loc), va_P (dC, dI) vwCl (xG L cid K N v) H → va_S A s.heap H locs → W p l e ({ frames := 1, cells := 0, slots := 0, locals := 21 }) s m ([.ref p0.toNat, .int (iI p1), .int (iI p2)] : List Value).toArray below meth c H locs 0 0 Q (F0 m 0 ls []) from ST _ _ hP hS
  clear hP hS
  intro H locs hP hS
  refine lv_iconst (v := iI 0) hx hb dX7_numberAt_0 rfl ?_
  refine lv_istore_n (i := 3) (lv' := [(3, .int (iI 0)), (0, .ref p0.toNat), (1, .int (iI p1)), (2, .int (iI p2))]) hx hb dX7_numberAt_1 rfl hl (by decide) rfl (fun ls hl => ?_)
  refine lv_iload_n hx hb dX7_numberAt_2 rfl (lv_at hl 2 rfl) ?_
  refine lv_istore (i := 4) (lv' := [(4, .int (iI p1)), (3, .int (iI 0)), (0, .ref p0.toNat), (1, .int (iI p1)), (2, .int (iI p2))]) hx hb dX7_numberAt_3 hl (by decide) rfl (fun ls hl => ?_)
  have L5 : ∀ (n5 : Nat) (a4_5 a3_5 : Int) (H : Heap) (locs : List Loc) (ls : Array Slot), ((-2147483648) ≤ a4_5 ∧ a4_5 ≤ 2147483647) → ((-2147483648) ≤ a3_5 ∧ a3_5 ≤ 2147483647) → (0 < (n5 : Int) ∧ p2 - a4_5 < (n5 : Int)) → va_P (dC, dI) vwCl (xG L cid K N v) H → va_S A s.heap H locs → lv_has ls 5 [(4, .int (iI a4_5)), (3, .int (iI a3_5)), (0, .ref p0.toNat), (1, .int (iI p1)), (2, .int (iI p2))] → W p l e ({ frames := 1, cells := 0, slots := 0, locals := 21 }) s m ([.ref p0.toNat, .int (iI p1), .int (iI p2)] : List Value).toArray below meth c H locs 0 0 Q (F0 m 5 ls []) := by
    intro n5
    induction n5 with
    | zero =>
      intro a4_5 a3_5 H locs ls h_1 h_2 hm5 hP hS hl
      exfalso; omega
    | succ n5 ih5 =>
      intro a4_5 a3_5 H locs ls h_3 h_4 hm5 hP hS hl
      refine lv_iload hx hb dX7_numberAt_5 (lv_at hl 0 rfl) ?_
      refine lv_iload_n hx hb dX7_numberAt_7 rfl (lv_at hl 4 rfl) ?_
      refine xr_icmp_ge (tgt := 38) hx hb dX7_numberAt_8 (by decide) (by omega) (by omega) (fun h_5 => ?_) (fun h_5 => ?_)
      · refine lv_iload_n hx hb dX7_numberAt_38 rfl (lv_at hl 1 rfl) ?_
        rw [← hQ]
        exact W.iret (v := iI a3_5) hx hb hr (fun t ht hW => ⟨⟨iI a3_5, (), rfl, ⟨a3_5, rfl, by omega⟩, trivial⟩, hS.F ht⟩) hS.2.2 dX7_numberAt_39
      · refine lv_iload_n hx hb dX7_numberAt_11 rfl (lv_at hl 1 rfl) ?_
        refine lv_ldc hx hb hown (hts (.constant RX7 140 99999) (jm m_687)) dX7_numberAt_12 ?_
        refine jt_i (iI 99999) (by decide) ?_
        refine xr_icmp_gt (tgt := 38) hx hb dX7_numberAt_14 (by decide) (by omega) (by omega) (fun h_6 => ?_) (fun h_6 => ?_)
        · refine lv_iload_n hx hb dX7_numberAt_38 rfl (lv_at hl 1 rfl) ?_
          rw [← hQ]
          exact W.iret (v := iI a3_5) hx hb hr (fun t ht hW => ⟨⟨iI a3_5, (), rfl, ⟨a3_5, rfl, by omega⟩, trivial⟩, hS.F ht⟩) hS.2.2 dX7_numberAt_39
        · refine lv_iload_n hx hb dX7_numberAt_17 rfl (lv_at hl 1 rfl) ?_
          refine lv_bipush (v := iI 10) hx hb dX7_numberAt_18 rfl ?_
          refine xr_mul hx hb dX7_numberAt_20 ?_
          refine xr_kept (fun z_7 h_8 h_9 => ?_)
          clear h_9
          refine lv_aload_n hx hb dX7_numberAt_21 rfl (lv_at hl 2 rfl) ?_
          refine lv_iload hx hb dX7_numberAt_22 (lv_at hl 0 rfl) ?_
          refine jc_i (va_runV (As := [.int (iI a4_5)]) (rest := [.int (iI z_7)]) ⟨hx, hb, hml, hown, hts⟩ (sX7_byteAt l dC dI _ L cid K N tW sK sV v p0 a4_5 hI q0 (by omega)) (cwV 1 hts (jgoodV m_728 m_729 m_730 m_677 m_731) rfl rfl rfl (by decide +kernel) ⟨(Nat.le_of_ble_eq_true rfl), (Nat.le_of_ble_eq_true rfl)⟩) ⟨xP_blind, xrecv hK hP q0 rfl rfl, fun U hU hW => ⟨rfl, xP_of hU hW hP hK hDw hX hS hAw hAA⟩⟩ rfl rfl hl.1 rfl (lv_room (Nat.le_of_ble_eq_true rfl)) dX7_numberAt_24 ⟨(Nat.le_of_ble_eq_true rfl), (Nat.le_of_ble_eq_true rfl)⟩) hP hS hA (fun r_10 H locs w_11 hP hS => ?_)
          obtain ⟨z_12, rfl, h_13⟩ := w_11
          refine xr_add hx hb dX7_numberAt_27 ?_
          refine xr_kept (fun z_14 h_15 h_16 => ?_)
          refine lv_bipush (v := iI 48) hx hb dX7_numberAt_28 rfl ?_
          refine xr_sub hx hb dX7_numberAt_30 ?_
          refine xr_kept (fun z_17 h_18 h_19 => ?_)
          refine lv_istore_n (i := 3) (lv' := [(3, .int (iI z_17)), (4, .int (iI a4_5)), (0, .ref p0.toNat), (1, .int (iI p1)), (2, .int (iI p2))]) hx hb dX7_numberAt_31 rfl hl (by decide) rfl (fun ls hl => ?_)
          refine lv_iinc (v := iI (a4_5 + 1)) (lv' := [(4, .int (iI (a4_5 + 1))), (3, .int (iI z_17)), (0, .ref p0.toNat), (1, .int (iI p1)), (2, .int (iI p2))]) hx hb dX7_numberAt_32 hl (k := 1) rfl (iI_add _ _) (by decide) rfl (fun ls hl => ?_)
          refine lv_goto (tgt := 5) hx hb dX7_numberAt_35 (by decide) ?_
          exact ih5 (a4_5 + 1) z_17 H locs ls (by omega) (by omega) (by omega) hP hS hl
  exact L5 (((p2 - p1 : Int)).toNat + 1) p1 0 H locs ls (by omega) (by omega) (by omega) hP hS hl
