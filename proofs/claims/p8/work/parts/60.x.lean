set_option maxHeartbeats 2000000 in
set_option maxRecDepth 100000 in
theorem sX7_stopAt (l : Launch) (dC : Nat → ClassId) (dI : Nat → Nat → Nat) (sz : Nat) (L : List Nat) (cid : Nat → ClassId) (K : Int → Nat) (N : Int → Int) (tW : Nat) (sK sV : Nat → Nat) (v : Int → Int → Int) (p0 : Int) (p1 : Int) (p2 : Int) (hI : xI L K N v) (q0 : ok L K p0 7) (q1 : rg p1) (q2 : rg p2) : Met l yX7_stopAt (jk yX7_stopAt cX7_stopAt 4 (some .int)) ({ frames := 1, cells := 0, slots := 0, locals := 21 }) (va_Pc [.ref p0.toNat, .int (iI p1), .int (iI p2)] (xP (dC, dI) (xG L cid K N v) (xT cid) tW sK sV sz)) (va_Qi (fun (r : Int32) (_ : Unit) => ∃ z : Int, r = iI z ∧ (rg z)) (fun _ _ => True) (va_A [] sz)) 0 0 (va_A [] sz) := by
  refine Met.ofW (cc := cX7_stopAt) (maxL := 4) (ret := (some .int)) (by decide) rfl ?_
  intro p e s m args below meth c s₁ B hml hv
  obtain ⟨rfl, ⟨hsz, hP, hK, hD0⟩, hX⟩ := hv
  have hx := B.exec
  have hb := B.bytes
  have hr := B.returns
  have hts := atoms_spec (ws := (jk yX7_stopAt cX7_stopAt 4 (some .int))) B.pre
  have hj : ∀ w ∈ jw, w.before ([.ref p0.toNat, .int (iI p1), .int (iI p2)] : List Value).toArray s = true := fun w h => hts w (jm h)
  have hown : s.vm.findClass RX7 = some m.cls := findClass_of_methodNamed B.named
  subst hsz
  have hDw := hD0.self (sz := s.heap.size)
  have hAA : ∀ q : Nat, s.heap.size ≤ q → va_A (xG L cid K N v) s.heap.size q := fun q h => Or.inr h
  have hAw : ∀ q, va_A [] s.heap.size q → va_A (xG L cid K N v) s.heap.size q := ja_nil va_S.rf hAA
  generalize hAe : (va_A [] s.heap.size) = A at hAw ⊢
  have hA : ∀ q : Nat, s.heap.size ≤ q → A q := fun q h => by rw [← hAe]; exact Or.inr h
  have hS : va_S A s.heap s.heap [] := va_S.rf
  have hXa := hX.nar hAw
  have hP : va_P (dC, dI) vwCl (xG L cid K N v) s.heap := hP
  have hl := lv_entry ([.ref p0.toNat, .int (iI p1), .int (iI p2)]) (n := 4) (Nat.le_of_ble_eq_true rfl)
  rw [lg_entry_eq]
  generalize (lg_sl ([.ref p0.toNat, .int (iI p1), .int (iI p2)]) ++ List.replicate (4 - (lg_sl ([.ref p0.toNat, .int (iI p1), .int (iI p2)])).length) Slot.unset).toArray = ls at hl ⊢
  have hl : lv_has ls 4 [(0, .ref p0.toNat), (1, .int (iI p1)), (2, .int (iI p2))] := hl
  generalize hQ : MQ below (va_Qi (fun (r : Int32) (_ : Unit) => ∃ z : Int, r = iI z ∧ (rg z)) (fun _ _ => True) A) ([.ref p0.toNat, .int (iI p1), .int (iI p2)] : List Value).toArray s 0 0 A = Q
  suffices ST : ∀ (H : Heap) (locs : List Loc), va_P (dC, dI) vwCl (xG L cid K N v) H → va_S A s.heap H locs → W p l e ({ frames := 1, cells := 0, slots := 0, locals := 21 }) s m ([.ref p0.toNat, .int (iI p1), .int (iI p2)] : List Value).toArray below meth c H locs 0 0 Q (F0 m 0 ls []) from ST _ _ hP hS
  clear hP hS
  intro H locs hP hS
  refine lv_iload_n hx hb dX7_stopAt_0 rfl (lv_at hl 1 rfl) ?_
  refine lv_iconst (v := iI 1) hx hb dX7_stopAt_1 rfl ?_
  refine xr_add hx hb dX7_stopAt_2 ?_
  refine xr_kept (fun z_1 h_2 h_3 => ?_)
  refine lv_istore_n (lv' := [(3, .int (iI z_1)), (0, .ref p0.toNat), (1, .int (iI p1)), (2, .int (iI p2))]) hx hb dX7_stopAt_3 rfl hl (by decide) rfl (fun ls hl => ?_)
  have L4 : ∀ (n4 : Nat) (a3_4 : Int) (H : Heap) (locs : List Loc) (ls : Array Slot), ((-2147483648) ≤ a3_4 ∧ a3_4 ≤ 2147483647) → (0 < (n4 : Int) ∧ (v p0 1) - a3_4 < (n4 : Int)) → va_P (dC, dI) vwCl (xG L cid K N v) H → va_S A s.heap H locs → lv_has ls 4 [(3, .int (iI a3_4)), (0, .ref p0.toNat), (1, .int (iI p1)), (2, .int (iI p2))] → W p l e ({ frames := 1, cells := 0, slots := 0, locals := 21 }) s m ([.ref p0.toNat, .int (iI p1), .int (iI p2)] : List Value).toArray below meth c H locs 0 0 Q (F0 m 4 ls []) := by
    intro n4
    induction n4 with
    | zero =>
      intro a3_4 H locs ls h_4 hm4 hP hS hl
      exfalso; omega
    | succ n4 ih4 =>
      intro a3_4 H locs ls h_5 hm4 hP hS hl
      refine lv_iload_n hx hb dX7_stopAt_4 rfl (lv_at hl 0 rfl) ?_
      refine lv_aload_n hx hb dX7_stopAt_5 rfl (lv_at hl 1 rfl) ?_
      have h_6 : 0 ≤ v p0 1 ∧ v p0 1 ≤ 600 := xf_7_1 hI q0
      refine gx_RX7_43 (y := v p0 1) hx hb hj hown hK hP q0 rfl dX7_stopAt_6 ?_
      refine xr_icmp_ge (tgt := 34) hx hb dX7_stopAt_9 (by decide) (by omega) (by omega) (fun h_7 => ?_) (fun h_7 => ?_)
      · have L34 : ∀ (n34 : Nat) (a3_34 : Int) (H : Heap) (locs : List Loc) (ls : Array Slot), ((-2147483648) ≤ a3_34 ∧ a3_34 ≤ 2147483647) → (0 < (n34 : Int) ∧ (v p0 1) - a3_34 < (n34 : Int)) → va_P (dC, dI) vwCl (xG L cid K N v) H → va_S A s.heap H locs → lv_has ls 4 [(3, .int (iI a3_34)), (0, .ref p0.toNat), (1, .int (iI p1)), (2, .int (iI p2))] → W p l e ({ frames := 1, cells := 0, slots := 0, locals := 21 }) s m ([.ref p0.toNat, .int (iI p1), .int (iI p2)] : List Value).toArray below meth c H locs 0 0 Q (F0 m 34 ls []) := by
          intro n34
          induction n34 with
          | zero =>
            intro a3_34 H locs ls h_8 hm34 hP hS hl
            exfalso; omega
          | succ n34 ih34 =>
            intro a3_34 H locs ls h_9 hm34 hP hS hl
            refine lv_iload_n hx hb dX7_stopAt_34 rfl (lv_at hl 0 rfl) ?_
            refine lv_aload_n hx hb dX7_stopAt_35 rfl (lv_at hl 1 rfl) ?_
            refine gx_RX7_43 (y := v p0 1) hx hb hj hown hK hP q0 rfl dX7_stopAt_36 ?_
            refine xr_icmp_ge (tgt := 64) hx hb dX7_stopAt_39 (by decide) (by omega) (by omega) (fun h_10 => ?_) (fun h_10 => ?_)
            · refine lv_iload_n hx hb dX7_stopAt_64 rfl (lv_at hl 0 rfl) ?_
              rw [← hQ]
              exact W.iret (v := iI a3_34) hx hb hr (fun t ht hW => ⟨⟨iI a3_34, (), rfl, ⟨a3_34, rfl, by omega⟩, trivial⟩, hS.F ht⟩) hS.2.2 dX7_stopAt_65
            · refine lv_iload_n hx hb dX7_stopAt_42 rfl (lv_at hl 3 rfl) ?_
              refine lv_iconst (v := iI 2) hx hb dX7_stopAt_43 rfl ?_
              refine xr_icmp_ne (tgt := 64) hx hb dX7_stopAt_44 (by decide) (by omega) (by omega) (fun h_11 => ?_) (fun h_11 => ?_)
              · refine lv_iload_n hx hb dX7_stopAt_64 rfl (lv_at hl 0 rfl) ?_
                rw [← hQ]
                exact W.iret (v := iI a3_34) hx hb hr (fun t ht hW => ⟨⟨iI a3_34, (), rfl, ⟨a3_34, rfl, by omega⟩, trivial⟩, hS.F ht⟩) hS.2.2 dX7_stopAt_65
              · refine lv_aload_n hx hb dX7_stopAt_47 rfl (lv_at hl 1 rfl) ?_
                refine lv_iload_n hx hb dX7_stopAt_48 rfl (lv_at hl 0 rfl) ?_
                refine jc_i (va_runV (As := [.int (iI a3_34)]) (rest := []) ⟨hx, hb, hml, hown, hts⟩ (sX7_byteAt l dC dI _ L cid K N tW sK sV v p0 a3_34 hI q0 (by omega)) (cwV 1 hts (jgoodV m_724 m_725 m_726 m_673 m_727) rfl rfl rfl (by decide +kernel) ⟨(Nat.le_of_ble_eq_true rfl), (Nat.le_of_ble_eq_true rfl)⟩) ⟨xP_blind, xrecv hK hP q0 rfl rfl, fun U hU hW => ⟨rfl, xP_of hU hW hP hK hDw hX hS hAw hAA⟩⟩ rfl rfl hl.1 rfl (lv_room (Nat.le_of_ble_eq_true rfl)) dX7_stopAt_49 ⟨(Nat.le_of_ble_eq_true rfl), (Nat.le_of_ble_eq_true rfl)⟩) hP hS hA (fun r_12 H locs w_13 hP hS => ?_)
                obtain ⟨z_14, rfl, h_15⟩ := w_13
                refine jc_i (va_runS (As := [.int (iI z_14)]) (rest := []) ⟨hx, hb, hml, hown, hts⟩ (sX0_isDigit l dC dI _ z_14 (by omega)) (va_cwS 1 hts (jgoodS m_788 m_661 m_662 m_663) rfl rfl rfl (by decide +kernel) ⟨(Nat.le_of_ble_eq_true rfl), (Nat.le_of_ble_eq_true rfl)⟩) ⟨jw_blind0, fun U hU hW => ⟨rfl, congrArg Array.size hU⟩⟩ rfl rfl hl.1 rfl (lv_room (Nat.le_of_ble_eq_true rfl)) dX7_stopAt_52 ⟨(Nat.le_of_ble_eq_true rfl), (Nat.le_of_ble_eq_true rfl)⟩) hP hS hA (fun r_16 H locs w_17 hP hS => ?_)
                obtain ⟨z_18, rfl, h_19⟩ := w_17
                refine xr_if_eq (tgt := 64) hx hb dX7_stopAt_55 (by decide) (by omega) (fun h_20 => ?_) (fun h_20 => ?_)
                · refine lv_iload_n hx hb dX7_stopAt_64 rfl (lv_at hl 0 rfl) ?_
                  rw [← hQ]
                  exact W.iret (v := iI a3_34) hx hb hr (fun t ht hW => ⟨⟨iI a3_34, (), rfl, ⟨a3_34, rfl, by omega⟩, trivial⟩, hS.F ht⟩) hS.2.2 dX7_stopAt_65
                · refine lv_iinc (v := iI (a3_34 + 1)) (lv' := [(3, .int (iI (a3_34 + 1))), (0, .ref p0.toNat), (1, .int (iI p1)), (2, .int (iI p2))]) hx hb dX7_stopAt_58 hl (k := 0) rfl (iI_add _ _) (by decide) rfl (fun ls hl => ?_)
                  refine lv_goto (tgt := 34) hx hb dX7_stopAt_61 (by decide) ?_
                  exact ih34 (a3_34 + 1) H locs ls (by omega) (by omega) hP hS hl
        exact L34 ((((v p0 1) - a3_4 : Int)).toNat + 1) a3_4 H locs ls (by omega) (by omega) hP hS hl
      · refine lv_iload_n hx hb dX7_stopAt_12 rfl (lv_at hl 3 rfl) ?_
        refine lv_iconst (v := iI 1) hx hb dX7_stopAt_13 rfl ?_
        refine xr_icmp_ne (tgt := 34) hx hb dX7_stopAt_14 (by decide) (by omega) (by omega) (fun h_21 => ?_) (fun h_21 => ?_)
        · have L34 : ∀ (n34 : Nat) (a3_34 : Int) (H : Heap) (locs : List Loc) (ls : Array Slot), ((-2147483648) ≤ a3_34 ∧ a3_34 ≤ 2147483647) → (0 < (n34 : Int) ∧ (v p0 1) - a3_34 < (n34 : Int)) → va_P (dC, dI) vwCl (xG L cid K N v) H → va_S A s.heap H locs → lv_has ls 4 [(3, .int (iI a3_34)), (0, .ref p0.toNat), (1, .int (iI p1)), (2, .int (iI p2))] → W p l e ({ frames := 1, cells := 0, slots := 0, locals := 21 }) s m ([.ref p0.toNat, .int (iI p1), .int (iI p2)] : List Value).toArray below meth c H locs 0 0 Q (F0 m 34 ls []) := by
            intro n34
            induction n34 with
            | zero =>
              intro a3_34 H locs ls h_22 hm34 hP hS hl
              exfalso; omega
            | succ n34 ih34 =>
              intro a3_34 H locs ls h_23 hm34 hP hS hl
              refine lv_iload_n hx hb dX7_stopAt_34 rfl (lv_at hl 0 rfl) ?_
              refine lv_aload_n hx hb dX7_stopAt_35 rfl (lv_at hl 1 rfl) ?_
              refine gx_RX7_43 (y := v p0 1) hx hb hj hown hK hP q0 rfl dX7_stopAt_36 ?_
              refine xr_icmp_ge (tgt := 64) hx hb dX7_stopAt_39 (by decide) (by omega) (by omega) (fun h_24 => ?_) (fun h_24 => ?_)
              · refine lv_iload_n hx hb dX7_stopAt_64 rfl (lv_at hl 0 rfl) ?_
                rw [← hQ]
                exact W.iret (v := iI a3_34) hx hb hr (fun t ht hW => ⟨⟨iI a3_34, (), rfl, ⟨a3_34, rfl, by omega⟩, trivial⟩, hS.F ht⟩) hS.2.2 dX7_stopAt_65
              · refine lv_iload_n hx hb dX7_stopAt_42 rfl (lv_at hl 3 rfl) ?_
                refine lv_iconst (v := iI 2) hx hb dX7_stopAt_43 rfl ?_
                refine xr_icmp_ne (tgt := 64) hx hb dX7_stopAt_44 (by decide) (by omega) (by omega) (fun h_25 => ?_) (fun h_25 => ?_)
                · refine lv_iload_n hx hb dX7_stopAt_64 rfl (lv_at hl 0 rfl) ?_
                  rw [← hQ]
                  exact W.iret (v := iI a3_34) hx hb hr (fun t ht hW => ⟨⟨iI a3_34, (), rfl, ⟨a3_34, rfl, by omega⟩, trivial⟩, hS.F ht⟩) hS.2.2 dX7_stopAt_65
                · refine lv_aload_n hx hb dX7_stopAt_47 rfl (lv_at hl 1 rfl) ?_
                  refine lv_iload_n hx hb dX7_stopAt_48 rfl (lv_at hl 0 rfl) ?_
                  refine jc_i (va_runV (As := [.int (iI a3_34)]) (rest := []) ⟨hx, hb, hml, hown, hts⟩ (sX7_byteAt l dC dI _ L cid K N tW sK sV v p0 a3_34 hI q0 (by omega)) (cwV 1 hts (jgoodV m_724 m_725 m_726 m_673 m_727) rfl rfl rfl (by decide +kernel) ⟨(Nat.le_of_ble_eq_true rfl), (Nat.le_of_ble_eq_true rfl)⟩) ⟨xP_blind, xrecv hK hP q0 rfl rfl, fun U hU hW => ⟨rfl, xP_of hU hW hP hK hDw hX hS hAw hAA⟩⟩ rfl rfl hl.1 rfl (lv_room (Nat.le_of_ble_eq_true rfl)) dX7_stopAt_49 ⟨(Nat.le_of_ble_eq_true rfl), (Nat.le_of_ble_eq_true rfl)⟩) hP hS hA (fun r_26 H locs w_27 hP hS => ?_)
                  obtain ⟨z_28, rfl, h_29⟩ := w_27
                  refine jc_i (va_runS (As := [.int (iI z_28)]) (rest := []) ⟨hx, hb, hml, hown, hts⟩ (sX0_isDigit l dC dI _ z_28 (by omega)) (va_cwS 1 hts (jgoodS m_788 m_661 m_662 m_663) rfl rfl rfl (by decide +kernel) ⟨(Nat.le_of_ble_eq_true rfl), (Nat.le_of_ble_eq_true rfl)⟩) ⟨jw_blind0, fun U hU hW => ⟨rfl, congrArg Array.size hU⟩⟩ rfl rfl hl.1 rfl (lv_room (Nat.le_of_ble_eq_true rfl)) dX7_stopAt_52 ⟨(Nat.le_of_ble_eq_true rfl), (Nat.le_of_ble_eq_true rfl)⟩) hP hS hA (fun r_30 H locs w_31 hP hS => ?_)
                  obtain ⟨z_32, rfl, h_33⟩ := w_31
                  refine xr_if_eq (tgt := 64) hx hb dX7_stopAt_55 (by decide) (by omega) (fun h_34 => ?_) (fun h_34 => ?_)
                  · refine lv_iload_n hx hb dX7_stopAt_64 rfl (lv_at hl 0 rfl) ?_
                    rw [← hQ]
                    exact W.iret (v := iI a3_34) hx hb hr (fun t ht hW => ⟨⟨iI a3_34, (), rfl, ⟨a3_34, rfl, by omega⟩, trivial⟩, hS.F ht⟩) hS.2.2 dX7_stopAt_65
                  · refine lv_iinc (v := iI (a3_34 + 1)) (lv' := [(3, .int (iI (a3_34 + 1))), (0, .ref p0.toNat), (1, .int (iI p1)), (2, .int (iI p2))]) hx hb dX7_stopAt_58 hl (k := 0) rfl (iI_add _ _) (by decide) rfl (fun ls hl => ?_)
                    refine lv_goto (tgt := 34) hx hb dX7_stopAt_61 (by decide) ?_
                    exact ih34 (a3_34 + 1) H locs ls (by omega) (by omega) hP hS hl
          exact L34 ((((v p0 1) - a3_4 : Int)).toNat + 1) a3_4 H locs ls (by omega) (by omega) hP hS hl
        · refine lv_aload_n hx hb dX7_stopAt_17 rfl (lv_at hl 1 rfl) ?_
          refine lv_iload_n hx hb dX7_stopAt_18 rfl (lv_at hl 0 rfl) ?_
          refine jc_i (va_runV (As := [.int (iI a3_4)]) (rest := []) ⟨hx, hb, hml, hown, hts⟩ (sX7_byteAt l dC dI _ L cid K N tW sK sV v p0 a3_4 hI q0 (by omega)) (cwV 1 hts (jgoodV m_724 m_725 m_726 m_673 m_727) rfl rfl rfl (by decide +kernel) ⟨(Nat.le_of_ble_eq_true rfl), (Nat.le_of_ble_eq_true rfl)⟩) ⟨xP_blind, xrecv hK hP q0 rfl rfl, fun U hU hW => ⟨rfl, xP_of hU hW hP hK hDw hX hS hAw hAA⟩⟩ rfl rfl hl.1 rfl (lv_room (Nat.le_of_ble_eq_true rfl)) dX7_stopAt_19 ⟨(Nat.le_of_ble_eq_true rfl), (Nat.le_of_ble_eq_true rfl)⟩) hP hS hA (fun r_35 H locs w_36 hP hS => ?_)
          obtain ⟨z_37, rfl, h_38⟩ := w_36
          refine jc_i (va_runS (As := [.int (iI z_37)]) (rest := []) ⟨hx, hb, hml, hown, hts⟩ (sX7_isLetter l dC dI _ z_37 (by omega)) (va_cwS 1 hts (jgoodS m_785 m_786 m_673 m_787) rfl rfl rfl (by decide +kernel) ⟨(Nat.le_of_ble_eq_true rfl), (Nat.le_of_ble_eq_true rfl)⟩) ⟨jw_blind0, fun U hU hW => ⟨rfl, congrArg Array.size hU⟩⟩ rfl rfl hl.1 rfl (lv_room (Nat.le_of_ble_eq_true rfl)) dX7_stopAt_22 ⟨(Nat.le_of_ble_eq_true rfl), (Nat.le_of_ble_eq_true rfl)⟩) hP hS hA (fun r_39 H locs w_40 hP hS => ?_)
          obtain ⟨z_41, rfl, h_42⟩ := w_40
          refine xr_if_eq (tgt := 34) hx hb dX7_stopAt_25 (by decide) (by omega) (fun h_43 => ?_) (fun h_43 => ?_)
          · have L34 : ∀ (n34 : Nat) (a3_34 : Int) (H : Heap) (locs : List Loc) (ls : Array Slot), ((-2147483648) ≤ a3_34 ∧ a3_34 ≤ 2147483647) → (0 < (n34 : Int) ∧ (v p0 1) - a3_34 < (n34 : Int)) → va_P (dC, dI) vwCl (xG L cid K N v) H → va_S A s.heap H locs → lv_has ls 4 [(3, .int (iI a3_34)), (0, .ref p0.toNat), (1, .int (iI p1)), (2, .int (iI p2))] → W p l e ({ frames := 1, cells := 0, slots := 0, locals := 21 }) s m ([.ref p0.toNat, .int (iI p1), .int (iI p2)] : List Value).toArray below meth c H locs 0 0 Q (F0 m 34 ls []) := by
              intro n34
              induction n34 with
              | zero =>
                intro a3_34 H locs ls h_44 hm34 hP hS hl
                exfalso; omega
              | succ n34 ih34 =>
                intro a3_34 H locs ls h_45 hm34 hP hS hl
                refine lv_iload_n hx hb dX7_stopAt_34 rfl (lv_at hl 0 rfl) ?_
                refine lv_aload_n hx hb dX7_stopAt_35 rfl (lv_at hl 1 rfl) ?_
                refine gx_RX7_43 (y := v p0 1) hx hb hj hown hK hP q0 rfl dX7_stopAt_36 ?_
                refine xr_icmp_ge (tgt := 64) hx hb dX7_stopAt_39 (by decide) (by omega) (by omega) (fun h_46 => ?_) (fun h_46 => ?_)
                · refine lv_iload_n hx hb dX7_stopAt_64 rfl (lv_at hl 0 rfl) ?_
                  rw [← hQ]
                  exact W.iret (v := iI a3_34) hx hb hr (fun t ht hW => ⟨⟨iI a3_34, (), rfl, ⟨a3_34, rfl, by omega⟩, trivial⟩, hS.F ht⟩) hS.2.2 dX7_stopAt_65
                · refine lv_iload_n hx hb dX7_stopAt_42 rfl (lv_at hl 3 rfl) ?_
                  refine lv_iconst (v := iI 2) hx hb dX7_stopAt_43 rfl ?_
                  refine xr_icmp_ne (tgt := 64) hx hb dX7_stopAt_44 (by decide) (by omega) (by omega) (fun h_47 => ?_) (fun h_47 => ?_)
                  · refine lv_iload_n hx hb dX7_stopAt_64 rfl (lv_at hl 0 rfl) ?_
                    rw [← hQ]
                    exact W.iret (v := iI a3_34) hx hb hr (fun t ht hW => ⟨⟨iI a3_34, (), rfl, ⟨a3_34, rfl, by omega⟩, trivial⟩, hS.F ht⟩) hS.2.2 dX7_stopAt_65
                  · refine lv_aload_n hx hb dX7_stopAt_47 rfl (lv_at hl 1 rfl) ?_
                    refine lv_iload_n hx hb dX7_stopAt_48 rfl (lv_at hl 0 rfl) ?_
                    refine jc_i (va_runV (As := [.int (iI a3_34)]) (rest := []) ⟨hx, hb, hml, hown, hts⟩ (sX7_byteAt l dC dI _ L cid K N tW sK sV v p0 a3_34 hI q0 (by omega)) (cwV 1 hts (jgoodV m_724 m_725 m_726 m_673 m_727) rfl rfl rfl (by decide +kernel) ⟨(Nat.le_of_ble_eq_true rfl), (Nat.le_of_ble_eq_true rfl)⟩) ⟨xP_blind, xrecv hK hP q0 rfl rfl, fun U hU hW => ⟨rfl, xP_of hU hW hP hK hDw hX hS hAw hAA⟩⟩ rfl rfl hl.1 rfl (lv_room (Nat.le_of_ble_eq_true rfl)) dX7_stopAt_49 ⟨(Nat.le_of_ble_eq_true rfl), (Nat.le_of_ble_eq_true rfl)⟩) hP hS hA (fun r_48 H locs w_49 hP hS => ?_)
                    obtain ⟨z_50, rfl, h_51⟩ := w_49
                    refine jc_i (va_runS (As := [.int (iI z_50)]) (rest := []) ⟨hx, hb, hml, hown, hts⟩ (sX0_isDigit l dC dI _ z_50 (by omega)) (va_cwS 1 hts (jgoodS m_788 m_661 m_662 m_663) rfl rfl rfl (by decide +kernel) ⟨(Nat.le_of_ble_eq_true rfl), (Nat.le_of_ble_eq_true rfl)⟩) ⟨jw_blind0, fun U hU hW => ⟨rfl, congrArg Array.size hU⟩⟩ rfl rfl hl.1 rfl (lv_room (Nat.le_of_ble_eq_true rfl)) dX7_stopAt_52 ⟨(Nat.le_of_ble_eq_true rfl), (Nat.le_of_ble_eq_true rfl)⟩) hP hS hA (fun r_52 H locs w_53 hP hS => ?_)
                    obtain ⟨z_54, rfl, h_55⟩ := w_53
                    refine xr_if_eq (tgt := 64) hx hb dX7_stopAt_55 (by decide) (by omega) (fun h_56 => ?_) (fun h_56 => ?_)
                    · refine lv_iload_n hx hb dX7_stopAt_64 rfl (lv_at hl 0 rfl) ?_
                      rw [← hQ]
                      exact W.iret (v := iI a3_34) hx hb hr (fun t ht hW => ⟨⟨iI a3_34, (), rfl, ⟨a3_34, rfl, by omega⟩, trivial⟩, hS.F ht⟩) hS.2.2 dX7_stopAt_65
                    · refine lv_iinc (v := iI (a3_34 + 1)) (lv' := [(3, .int (iI (a3_34 + 1))), (0, .ref p0.toNat), (1, .int (iI p1)), (2, .int (iI p2))]) hx hb dX7_stopAt_58 hl (k := 0) rfl (iI_add _ _) (by decide) rfl (fun ls hl => ?_)
                      refine lv_goto (tgt := 34) hx hb dX7_stopAt_61 (by decide) ?_
                      exact ih34 (a3_34 + 1) H locs ls (by omega) (by omega) hP hS hl
            exact L34 ((((v p0 1) - a3_4 : Int)).toNat + 1) a3_4 H locs ls (by omega) (by omega) hP hS hl
          · refine lv_iinc (v := iI (a3_4 + 1)) (lv' := [(3, .int (iI (a3_4 + 1))), (0, .ref p0.toNat), (1, .int (iI p1)), (2, .int (iI p2))]) hx hb dX7_stopAt_28 hl (k := 0) rfl (iI_add _ _) (by decide) rfl (fun ls hl => ?_)
            refine lv_goto (tgt := 4) hx hb dX7_stopAt_31 (by decide) ?_
            exact ih4 (a3_4 + 1) H locs ls (by omega) (by omega) hP hS hl
  exact L4 ((((v p0 1) - z_1 : Int)).toNat + 1) z_1 H locs ls (by omega) (by omega) hP hS hl
set_option maxHeartbeats 2000000 in
set_option maxRecDepth 100000 in
theorem sJ3_checkIndex_8e157 (l : Launch) (dC : Nat → ClassId) (dI : Nat → Nat → Nat) (sz : Nat) (p1 : Int) (p2 : Int) (p3 : Nat) (q1 : rg p1) (q2 : rg p2) (k1 : 0 ≤ p1) (k2 : p1 < p2) : Met l yJ3_checkIndex_8e157 (jk yJ3_checkIndex_8e157 cJ3_checkIndex_8e157 3 (some .int)) ({ frames := 0, cells := 0, slots := 0, locals := 0 }) (va_Pc [.int (iI p1), .int (iI p2), .ref p3] (fun U => U.heap.size = sz)) (va_Qi (fun (r : Int32) (_ : Unit) => ∃ z : Int, r = iI z ∧ (rg z)) (fun _ _ => True) (va_A [] sz)) 0 0 (va_A [] sz) := by
  refine Met.ofW (cc := cJ3_checkIndex_8e157) (maxL := 3) (ret := (some .int)) (by decide) rfl ?_
  intro p e s m args below meth c s₁ B hml hv
  obtain ⟨rfl, hsz⟩ := hv
  have hx := B.exec
  have hb := B.bytes
  have hr := B.returns
  have hts := atoms_spec (ws := (jk yJ3_checkIndex_8e157 cJ3_checkIndex_8e157 3 (some .int))) B.pre
  have hj : ∀ w ∈ jw, w.before ([.int (iI p1), .int (iI p2), .ref p3] : List Value).toArray s = true := fun w h => hts w (jm h)
  have hown : s.vm.findClass RJ3 = some m.cls := findClass_of_methodNamed B.named
  subst hsz
  have hP : va_P (dC, dI) vwCl [] s.heap := fun k q h => by simp at h
  generalize hAe : (va_A [] s.heap.size) = A
  have hA : ∀ q : Nat, s.heap.size ≤ q → A q := fun q h => by rw [← hAe]; exact Or.inr h
  have hS : va_S A s.heap s.heap [] := va_S.rf
  have hl := lv_entry ([.int (iI p1), .int (iI p2), .ref p3]) (n := 3) (Nat.le_of_ble_eq_true rfl)
  rw [lg_entry_eq]
  generalize (lg_sl ([.int (iI p1), .int (iI p2), .ref p3]) ++ List.replicate (3 - (lg_sl ([.int (iI p1), .int (iI p2), .ref p3])).length) Slot.unset).toArray = ls at hl ⊢
  have hl : lv_has ls 3 [(0, .int (iI p1)), (1, .int (iI p2)), (2, .ref p3)] := hl
  generalize hQ : MQ below (va_Qi (fun (r : Int32) (_ : Unit) => ∃ z : Int, r = iI z ∧ (rg z)) (fun _ _ => True) A) ([.int (iI p1), .int (iI p2), .ref p3] : List Value).toArray s 0 0 A = Q
  suffices ST : ∀ (H : Heap) (locs : List Loc), va_P (dC, dI) vwCl [] H → va_S A s.heap H locs → W p l e ({ frames := 0, cells := 0, slots := 0, locals := 0 }) s m ([.int (iI p1), .int (iI p2), .ref p3] : List Value).toArray below meth c H locs 0 0 Q (F0 m 0 ls []) from ST _ _ hP hS
  clear hP hS
  intro H locs hP hS
  refine lv_iload_n hx hb dJ3_checkIndex_8e157_0 rfl (lv_at hl 0 rfl) ?_
  refine xr_if_lt (tgt := 9) hx hb dJ3_checkIndex_8e157_1 (by decide) (by omega) (fun h_1 => ?_) (fun h_1 => ?_)
  · exfalso; omega
  · refine lv_iload_n hx hb dJ3_checkIndex_8e157_4 rfl (lv_at hl 0 rfl) ?_
    refine lv_iload_n hx hb dJ3_checkIndex_8e157_5 rfl (lv_at hl 1 rfl) ?_
    refine xr_icmp_lt (tgt := 16) hx hb dJ3_checkIndex_8e157_6 (by decide) (by omega) (by omega) (fun h_2 => ?_) (fun h_2 => ?_)
    · refine lv_iload_n hx hb dJ3_checkIndex_8e157_16 rfl (lv_at hl 0 rfl) ?_
      rw [← hQ]
      exact W.iret (v := iI p1) hx hb hr (fun t ht hW => ⟨⟨iI p1, (), rfl, ⟨p1, rfl, by omega⟩, trivial⟩, hS.F ht⟩) hS.2.2 dJ3_checkIndex_8e157_17
    · exfalso; omega
set_option maxHeartbeats 2000000 in
set_option maxRecDepth 100000 in
theorem sJ0_checkIndex_df160 (l : Launch) (dC : Nat → ClassId) (dI : Nat → Nat → Nat) (sz : Nat) (sK sV : Nat → Nat) (p1 : Int) (p2 : Int) (q1 : rg p1) (q2 : rg p2) (k1 : 0 ≤ p1) (k2 : p1 < p2) : Met l yJ0_checkIndex_df160 (jk yJ0_checkIndex_df160 cJ0_checkIndex_df160 2 none) ({ frames := 1, cells := 0, slots := 0, locals := 22 }) (va_Pc [.int (iI p1), .int (iI p2)] (fun U => U.heap.size = sz ∧ xS sK sV (va_A [] sz) U U.heap)) (va_Qv (fun (_ : Unit) => True) (fun _ _ => True) (va_A [] sz)) 0 0 (va_A [] sz) := by
  refine Met.ofW (cc := cJ0_checkIndex_df160) (maxL := 2) (ret := none) (by decide) rfl ?_
  intro p e s m args below meth c s₁ B hml hv
  obtain ⟨rfl, hsz, hXs⟩ := hv
  have hx := B.exec
  have hb := B.bytes
  have hr := B.returns
  have hts := atoms_spec (ws := (jk yJ0_checkIndex_df160 cJ0_checkIndex_df160 2 none)) B.pre
  have hj : ∀ w ∈ jw, w.before ([.int (iI p1), .int (iI p2)] : List Value).toArray s = true := fun w h => hts w (jm h)
  have hown : s.vm.findClass RJ0 = some m.cls := findClass_of_methodNamed B.named
  subst hsz
  have hP : va_P (dC, dI) vwCl [] s.heap := fun k q h => by simp at h
  generalize hAe : (va_A [] s.heap.size) = A at hXs ⊢
  have hA : ∀ q : Nat, s.heap.size ≤ q → A q := fun q h => by rw [← hAe]; exact Or.inr h
  have hS : va_S A s.heap s.heap [] := va_S.rf
  have hl := lv_entry ([.int (iI p1), .int (iI p2)]) (n := 2) (Nat.le_of_ble_eq_true rfl)
  rw [lg_entry_eq]
  generalize (lg_sl ([.int (iI p1), .int (iI p2)]) ++ List.replicate (2 - (lg_sl ([.int (iI p1), .int (iI p2)])).length) Slot.unset).toArray = ls at hl ⊢
  have hl : lv_has ls 2 [(0, .int (iI p1)), (1, .int (iI p2))] := hl
  generalize hQ : MQ below (va_Qv (fun (_ : Unit) => True) (fun _ _ => True) A) ([.int (iI p1), .int (iI p2)] : List Value).toArray s 0 0 A = Q
  suffices ST : ∀ (H : Heap) (locs : List Loc), va_P (dC, dI) vwCl [] H → va_S A s.heap H locs → W p l e ({ frames := 1, cells := 0, slots := 0, locals := 22 }) s m ([.int (iI p1), .int (iI p2)] : List Value).toArray below meth c H locs 0 0 Q (F0 m 0 ls []) from ST _ _ hP hS
  clear hP hS
  intro H locs hP hS
  refine lv_iload_n hx hb dJ0_checkIndex_df160_0 rfl (lv_at hl 0 rfl) ?_
  refine lv_iload_n hx hb dJ0_checkIndex_df160_1 rfl (lv_at hl 1 rfl) ?_
  refine va_gets hx hb hXs.2.2.2 hS hown (hj _ m_792) (fun _ h9 => h9) dJ0_checkIndex_df160_2 ?_
  refine jc_i (va_runS (As := [.int (iI p1), .int (iI p2), .ref (sK 3)]) (rest := []) ⟨hx, hb, hml, hown, hts⟩ (sJ3_checkIndex_8e157 l dC dI _ p1 p2 (sK 3) (by omega) (by omega) (by omega) (by omega)) (va_cwS 3 hts (jgoodS m_793 m_794 m_795 m_796) rfl rfl rfl (by decide +kernel) ⟨(Nat.le_of_ble_eq_true rfl), (Nat.le_of_ble_eq_true rfl)⟩) ⟨jw_blind0, fun U hU hW => ⟨rfl, congrArg Array.size hU⟩⟩ rfl rfl hl.1 rfl (lv_room (Nat.le_of_ble_eq_true rfl)) dJ0_checkIndex_df160_5 ⟨(Nat.le_of_ble_eq_true rfl), (Nat.le_of_ble_eq_true rfl)⟩) hP hS hA (fun r_1 H locs w_2 hP hS => ?_)
  obtain ⟨z_3, rfl, h_4⟩ := w_2
  refine lv_pop hx hb dJ0_checkIndex_df160_8 rfl ?_
  rw [← hQ]
  exact W.vret hx hb hr (fun t ht hW => ⟨⟨(), rfl, trivial, trivial⟩, hS.F ht⟩) hS.2.2 dJ0_checkIndex_df160_9
set_option maxHeartbeats 2000000 in
set_option maxRecDepth 100000 in
theorem sJ1_charAt_3b067 (l : Launch) (dC : Nat → ClassId) (dI : Nat → Nat → Nat) (sz : Nat) (sK sV : Nat → Nat) (p1 : Nat) (p2 : Int) (q0 : p1 < 3) (q2 : rg p2) (k1 : 0 ≤ p2) (k2 : p2 < sx_n p1) : Met l yJ1_charAt_3b067 (jk yJ1_charAt_3b067 cJ1_charAt_3b067 2 (some .char)) ({ frames := 2, cells := 0, slots := 0, locals := 43 }) (va_Pc [.ref (sV p1), .int (iI p2)] (fun U => U.heap.size = sz ∧ xS sK sV (va_A [] sz) U U.heap)) (va_Qi (fun (r : Int32) (_ : Unit) => ∃ z : Int, r = iI z ∧ (0 ≤ z ∧ z ≤ 65535) ∧ (z = sx_c p1 p2)) (fun _ _ => True) (va_A [] sz)) 0 0 (va_A [] sz) := by
  refine Met.ofW (cc := cJ1_charAt_3b067) (maxL := 2) (ret := (some .char)) (by decide) rfl ?_
  intro p e s m args below meth c s₁ B hml hv
  obtain ⟨rfl, hsz, hXs⟩ := hv
  have hx := B.exec
  have hb := B.bytes
  have hr := B.returns
  have hts := atoms_spec (ws := (jk yJ1_charAt_3b067 cJ1_charAt_3b067 2 (some .char))) B.pre
  have hj : ∀ w ∈ jw, w.before ([.ref (sV p1), .int (iI p2)] : List Value).toArray s = true := fun w h => hts w (jm h)
  have hown : s.vm.findClass RJ1 = some m.cls := findClass_of_methodNamed B.named
  subst hsz
  have hP : va_P (dC, dI) vwCl [] s.heap := fun k q h => by simp at h
  generalize hAe : (va_A [] s.heap.size) = A at hXs ⊢
  have hA : ∀ q : Nat, s.heap.size ≤ q → A q := fun q h => by rw [← hAe]; exact Or.inr h
  have hS : va_S A s.heap s.heap [] := va_S.rf
  have hl := lv_entry ([.ref (sV p1), .int (iI p2)]) (n := 2) (Nat.le_of_ble_eq_true rfl)
  rw [lg_entry_eq]
  generalize (lg_sl ([.ref (sV p1), .int (iI p2)]) ++ List.replicate (2 - (lg_sl ([.ref (sV p1), .int (iI p2)])).length) Slot.unset).toArray = ls at hl ⊢
  have hl : lv_has ls 2 [(0, .ref (sV p1)), (1, .int (iI p2))] := hl
  generalize hQ : MQ below (va_Qi (fun (r : Int32) (_ : Unit) => ∃ z : Int, r = iI z ∧ (0 ≤ z ∧ z ≤ 65535) ∧ (z = sx_c p1 p2)) (fun _ _ => True) A) ([.ref (sV p1), .int (iI p2)] : List Value).toArray s 0 0 A = Q
  suffices ST : ∀ (H : Heap) (locs : List Loc), va_P (dC, dI) vwCl [] H → va_S A s.heap H locs → W p l e ({ frames := 2, cells := 0, slots := 0, locals := 43 }) s m ([.ref (sV p1), .int (iI p2)] : List Value).toArray below meth c H locs 0 0 Q (F0 m 0 ls []) from ST _ _ hP hS
  clear hP hS
  intro H locs hP hS
  refine lv_iload_n hx hb dJ1_charAt_3b067_0 rfl (lv_at hl 1 rfl) ?_
  refine lv_aload_n hx hb dJ1_charAt_3b067_1 rfl (lv_at hl 0 rfl) ?_
  refine xs_len hx hb hXs q0 hS dJ1_charAt_3b067_2 ?_
  have h_1 : 0 ≤ sx_n p1 ∧ sx_n p1 ≤ 2147483647 := sx_bd p1
  refine jc_v (va_runS (As := [.int (iI p2), .int (iI (sx_n p1))]) (rest := []) ⟨hx, hb, hml, hown, hts⟩ (sJ0_checkIndex_df160 l dC dI _ sK sV p2 (sx_n p1) (by omega) (by omega) (by omega) (by omega)) (va_cwS 2 hts (jgoodS m_797 m_798 m_750 m_799) rfl rfl rfl (by decide +kernel) ⟨(Nat.le_of_ble_eq_true rfl), (Nat.le_of_ble_eq_true rfl)⟩) ⟨xS_blind, fun U hU hW => ⟨rfl, xS_of hU hW hXs hS hA⟩⟩ rfl rfl hl.1 rfl (lv_room (Nat.le_of_ble_eq_true rfl)) dJ1_charAt_3b067_3 ⟨(Nat.le_of_ble_eq_true rfl), (Nat.le_of_ble_eq_true rfl)⟩) hP hS hA (fun H locs w_3 hP hS => ?_)
  refine lv_aload_n hx hb dJ1_charAt_3b067_6 rfl (lv_at hl 0 rfl) ?_
  refine lv_iload_n hx hb dJ1_charAt_3b067_7 rfl (lv_at hl 1 rfl) ?_
  refine xs_at hx hb hXs q0 hS (by omega) (by omega) dJ1_charAt_3b067_8 ?_
  refine lv_sipush (v := iI 255) hx hb dJ1_charAt_3b067_9 rfl ?_
  refine lv_iand hx hb dJ1_charAt_3b067_12 ?_
  refine lv_i2c hx hb dJ1_charAt_3b067_13 rfl ?_
  refine jt_i (iI (((((sx_byt.getD p1 []).getD (iI p2).toNatClampNeg 0) &&& iI 255).toUInt32 % 65536).toInt32).toInt) (iI_of _) ?_
  rw [← hQ]
  exact W.zret (v := iI ((((((sx_byt.getD p1 []).getD (iI p2).toNatClampNeg 0) &&& iI 255).toUInt32 % 65536).toInt32).toInt)) (ty := .char) hx hb hr (nb_char (ic_rng _).1 (ic_rng _).2) (fun t ht hW => ⟨⟨iI ((((((sx_byt.getD p1 []).getD (iI p2).toNatClampNeg 0) &&& iI 255).toUInt32 % 65536).toInt32).toInt), (), rfl, ⟨(((((sx_byt.getD p1 []).getD (iI p2).toNatClampNeg 0) &&& iI 255).toUInt32 % 65536).toInt32).toInt, rfl, ic_rng _, rfl⟩, trivial⟩, hS.F ht⟩) hS.2.2 dJ1_charAt_3b067_14
set_option maxHeartbeats 2000000 in
set_option maxRecDepth 100000 in
theorem sJ0_charAt_5068e (l : Launch) (dC : Nat → ClassId) (dI : Nat → Nat → Nat) (sz : Nat) (sK sV : Nat → Nat) (p0 : Nat) (p1 : Int) (q0 : p0 < 3) (q1 : rg p1) (k1 : 0 ≤ p1) (k2 : p1 < sx_n p0) : Met l yJ0_charAt_5068e (jk yJ0_charAt_5068e cJ0_charAt_5068e 2 (some .char)) ({ frames := 3, cells := 0, slots := 0, locals := 64 }) (va_Pc [.ref (sK p0), .int (iI p1)] (fun U => U.heap.size = sz ∧ xS sK sV (va_A [] sz) U U.heap)) (va_Qi (fun (r : Int32) (_ : Unit) => ∃ z : Int, r = iI z ∧ (0 ≤ z ∧ z ≤ 65535) ∧ (z = sx_c p0 p1)) (fun _ _ => True) (va_A [] sz)) 0 0 (va_A [] sz) := by
  refine Met.ofW (cc := cJ0_charAt_5068e) (maxL := 2) (ret := (some .char)) (by decide) rfl ?_
  intro p e s m args below meth c s₁ B hml hv
  obtain ⟨rfl, hsz, hXs⟩ := hv
  have hx := B.exec
  have hb := B.bytes
  have hr := B.returns
  have hts := atoms_spec (ws := (jk yJ0_charAt_5068e cJ0_charAt_5068e 2 (some .char))) B.pre
  have hj : ∀ w ∈ jw, w.before ([.ref (sK p0), .int (iI p1)] : List Value).toArray s = true := fun w h => hts w (jm h)
  have hown : s.vm.findClass RJ0 = some m.cls := findClass_of_methodNamed B.named
  subst hsz
  have hP : va_P (dC, dI) vwCl [] s.heap := fun k q h => by simp at h
  generalize hAe : (va_A [] s.heap.size) = A at hXs ⊢
  have hA : ∀ q : Nat, s.heap.size ≤ q → A q := fun q h => by rw [← hAe]; exact Or.inr h
  have hS : va_S A s.heap s.heap [] := va_S.rf
  have hl := lv_entry ([.ref (sK p0), .int (iI p1)]) (n := 2) (Nat.le_of_ble_eq_true rfl)
  rw [lg_entry_eq]
  generalize (lg_sl ([.ref (sK p0), .int (iI p1)]) ++ List.replicate (2 - (lg_sl ([.ref (sK p0), .int (iI p1)])).length) Slot.unset).toArray = ls at hl ⊢
  have hl : lv_has ls 2 [(0, .ref (sK p0)), (1, .int (iI p1))] := hl
  generalize hQ : MQ below (va_Qi (fun (r : Int32) (_ : Unit) => ∃ z : Int, r = iI z ∧ (0 ≤ z ∧ z ≤ 65535) ∧ (z = sx_c p0 p1)) (fun _ _ => True) A) ([.ref (sK p0), .int (iI p1)] : List Value).toArray s 0 0 A = Q
  suffices ST : ∀ (H : Heap) (locs : List Loc), va_P (dC, dI) vwCl [] H → va_S A s.heap H locs → W p l e ({ frames := 3, cells := 0, slots := 0, locals := 64 }) s m ([.ref (sK p0), .int (iI p1)] : List Value).toArray below meth c H locs 0 0 Q (F0 m 0 ls []) from ST _ _ hP hS
  clear hP hS
  intro H locs hP hS
  refine lv_aload_n hx hb dJ0_charAt_5068e_0 rfl (lv_at hl 0 rfl) ?_
  refine jc_i (va_runV (As := []) (rest := []) ⟨hx, hb, hml, hown, hts⟩ (sJ0_isLatin1_aae02 l dC dI _ sK sV p0 q0) (cwV 0 hts (jgoodV m_766 m_767 m_768 m_750 m_769) rfl rfl rfl (by decide +kernel) ⟨(Nat.le_of_ble_eq_true rfl), (Nat.le_of_ble_eq_true rfl)⟩) ⟨xS_blind, vk_recv hXs.1 q0 hS, fun U hU hW => ⟨rfl, xS_of hU hW hXs hS hA⟩⟩ rfl rfl hl.1 rfl (lv_room (Nat.le_of_ble_eq_true rfl)) dJ0_charAt_5068e_1 ⟨(Nat.le_of_ble_eq_true rfl), (Nat.le_of_ble_eq_true rfl)⟩) hP hS hA (fun r_1 H locs w_2 hP hS => ?_)
  obtain ⟨z_3, rfl, h_4, h_5⟩ := w_2
  obtain rfl : z_3 = 1 := by omega
  refine xr_if_eq (tgt := 16) hx hb dJ0_charAt_5068e_4 (by decide) (by omega) (fun h_6 => ?_) (fun h_6 => ?_)
  · exfalso; omega
  · refine lv_aload_n hx hb dJ0_charAt_5068e_7 rfl (lv_at hl 0 rfl) ?_
    refine xs_value hx hb hXs q0 hS hown (hj _ m_746) dJ0_charAt_5068e_8 ?_
    refine lv_iload_n hx hb dJ0_charAt_5068e_11 rfl (lv_at hl 1 rfl) ?_
    refine jc_i (va_runS (As := [.ref (sV p0), .int (iI p1)]) (rest := []) ⟨hx, hb, hml, hown, hts⟩ (sJ1_charAt_3b067 l dC dI _ sK sV p0 p1 q0 (by omega) (by omega) (by omega)) (va_cwS 2 hts (jgoodS m_800 m_801 m_754 m_802) rfl rfl rfl (by decide +kernel) ⟨(Nat.le_of_ble_eq_true rfl), (Nat.le_of_ble_eq_true rfl)⟩) ⟨xS_blind, fun U hU hW => ⟨rfl, xS_of hU hW hXs hS hA⟩⟩ rfl rfl hl.1 rfl (lv_room (Nat.le_of_ble_eq_true rfl)) dJ0_charAt_5068e_12 ⟨(Nat.le_of_ble_eq_true rfl), (Nat.le_of_ble_eq_true rfl)⟩) hP hS hA (fun r_7 H locs w_8 hP hS => ?_)
    obtain ⟨z_9, rfl, h_10, h_11⟩ := w_8
    rw [← hQ]
    exact W.zret (v := iI z_9) (ty := .char) hx hb hr (nb_char (by omega) (by omega)) (fun t ht hW => ⟨⟨iI z_9, (), rfl, ⟨z_9, rfl, by omega, by omega⟩, trivial⟩, hS.F ht⟩) hS.2.2 dJ0_charAt_5068e_15
set_option maxHeartbeats 2000000 in
set_option maxRecDepth 100000 in
theorem sX7_isWordAt (l : Launch) (dC : Nat → ClassId) (dI : Nat → Nat → Nat) (sz : Nat) (L : List Nat) (cid : Nat → ClassId) (K : Int → Nat) (N : Int → Int) (tW : Nat) (sK sV : Nat → Nat) (v : Int → Int → Int) (p0 : Int) (p1 : Int) (p2 : Int) (p3 : Int) (hI : xI L K N v) (q0 : ok L K p0 7) (q1 : rg p1) (q2 : rg p2) (q3 : rg p3) : Met l yX7_isWordAt (jk yX7_isWordAt cX7_isWordAt 5 (some .boolean)) ({ frames := 4, cells := 0, slots := 0, locals := 85 }) (va_Pc [.ref p0.toNat, .int (iI p1), .int (iI p2), .int (iI p3)] (xP (dC, dI) (xG L cid K N v) (xT cid) tW sK sV sz)) (va_Qi (fun (r : Int32) (_ : Unit) => ∃ z : Int, r = iI z ∧ (0 ≤ z ∧ z ≤ 1)) (fun _ _ => True) (va_A [] sz)) 0 0 (va_A [] sz) := by
  refine Met.ofW (cc := cX7_isWordAt) (maxL := 5) (ret := (some .boolean)) (by decide) rfl ?_
  intro p e s m args below meth c s₁ B hml hv
  obtain ⟨rfl, ⟨hsz, hP, hK, hD0⟩, hX⟩ := hv
  have hx := B.exec
  have hb := B.bytes
  have hr := B.returns
  have hts := atoms_spec (ws := (jk yX7_isWordAt cX7_isWordAt 5 (some .boolean))) B.pre
  have hj : ∀ w ∈ jw, w.before ([.ref p0.toNat, .int (iI p1), .int (iI p2), .int (iI p3)] : List Value).toArray s = true := fun w h => hts w (jm h)
  have hown : s.vm.findClass RX7 = some m.cls := findClass_of_methodNamed B.named
  subst hsz
  have hDw := hD0.self (sz := s.heap.size)
  have hAA : ∀ q : Nat, s.heap.size ≤ q → va_A (xG L cid K N v) s.heap.size q := fun q h => Or.inr h
  have hAw : ∀ q, va_A [] s.heap.size q → va_A (xG L cid K N v) s.heap.size q := ja_nil va_S.rf hAA
  generalize hAe : (va_A [] s.heap.size) = A at hAw ⊢
  have hA : ∀ q : Nat, s.heap.size ≤ q → A q := fun q h => by rw [← hAe]; exact Or.inr h
  have hS : va_S A s.heap s.heap [] := va_S.rf
  have hXa := hX.nar hAw
  have hP : va_P (dC, dI) vwCl (xG L cid K N v) s.heap := hP
  have hl := lv_entry ([.ref p0.toNat, .int (iI p1), .int (iI p2), .int (iI p3)]) (n := 5) (Nat.le_of_ble_eq_true rfl)
  rw [lg_entry_eq]
  generalize (lg_sl ([.ref p0.toNat, .int (iI p1), .int (iI p2), .int (iI p3)]) ++ List.replicate (5 - (lg_sl ([.ref p0.toNat, .int (iI p1), .int (iI p2), .int (iI p3)])).length) Slot.unset).toArray = ls at hl ⊢
  have hl : lv_has ls 5 [(0, .ref p0.toNat), (1, .int (iI p1)), (2, .int (iI p2)), (3, .int (iI p3))] := hl
  generalize hQ : MQ below (va_Qi (fun (r : Int32) (_ : Unit) => ∃ z : Int, r = iI z ∧ (0 ≤ z ∧ z ≤ 1)) (fun _ _ => True) A) ([.ref p0.toNat, .int (iI p1), .int (iI p2), .int (iI p3)] : List Value).toArray s 0 0 A = Q
  suffices ST : ∀ (H : Heap) (locs : List Loc), va_P (dC, dI) vwCl (xG L cid K N v) H → va_S A s.heap H locs → W p l e ({ frames := 4, cells := 0, slots := 0, locals := 85 }) s m ([.ref p0.toNat, .int (iI p1), .int (iI p2), .int (iI p3)] : List Value).toArray below meth c H locs 0 0 Q (F0 m 0 ls []) from ST _ _ hP hS
  clear hP hS
  intro H locs hP hS
  refine lv_iload_n hx hb dX7_isWordAt_0 rfl (lv_at hl 1 rfl) ?_
  refine lv_istore (lv' := [(4, .int (iI p1)), (0, .ref p0.toNat), (1, .int (iI p1)), (2, .int (iI p2)), (3, .int (iI p3))]) hx hb dX7_isWordAt_1 hl (by decide) rfl (fun ls hl => ?_)
  have L3 : ∀ (n3 : Nat) (a4_3 : Int) (H : Heap) (locs : List Loc) (ls : Array Slot), ((-2147483648) ≤ a4_3 ∧ a4_3 ≤ 2147483647) → (0 < (n3 : Int) ∧ 152 + 1 - a4_3 < (n3 : Int)) → va_P (dC, dI) vwCl (xG L cid K N v) H → va_S A s.heap H locs → lv_has ls 5 [(4, .int (iI a4_3)), (0, .ref p0.toNat), (1, .int (iI p1)), (2, .int (iI p2)), (3, .int (iI p3))] → W p l e ({ frames := 4, cells := 0, slots := 0, locals := 85 }) s m ([.ref p0.toNat, .int (iI p1), .int (iI p2), .int (iI p3)] : List Value).toArray below meth c H locs 0 0 Q (F0 m 3 ls []) := by
    intro n3
    induction n3 with
    | zero =>
      intro a4_3 H locs ls h_1 hm3 hP hS hl
      exfalso; omega
    | succ n3 ih3 =>
      intro a4_3 H locs ls h_2 hm3 hP hS hl
      refine lv_iload hx hb dX7_isWordAt_3 (lv_at hl 0 rfl) ?_
      refine xr_if_lt (tgt := 52) hx hb dX7_isWordAt_5 (by decide) (by omega) (fun h_3 => ?_) (fun h_3 => ?_)
      · refine lv_iconst (v := iI 1) hx hb dX7_isWordAt_52 rfl ?_
        rw [← hQ]
        exact W.zret (v := iI 1) (ty := .boolean) hx hb hr (nb_bool (by omega) (by omega)) (fun t ht hW => ⟨⟨iI 1, (), rfl, ⟨1, rfl, by omega⟩, trivial⟩, hS.F ht⟩) hS.2.2 dX7_isWordAt_53
      · refine lv_iload hx hb dX7_isWordAt_8 (lv_at hl 0 rfl) ?_
        refine lv_iload_n hx hb dX7_isWordAt_10 rfl (lv_at hl 3 rfl) ?_
        refine xr_icmp_ge (tgt := 52) hx hb dX7_isWordAt_11 (by decide) (by omega) (by omega) (fun h_4 => ?_) (fun h_4 => ?_)
        · refine lv_iconst (v := iI 1) hx hb dX7_isWordAt_52 rfl ?_
          rw [← hQ]
          exact W.zret (v := iI 1) (ty := .boolean) hx hb hr (nb_bool (by omega) (by omega)) (fun t ht hW => ⟨⟨iI 1, (), rfl, ⟨1, rfl, by omega⟩, trivial⟩, hS.F ht⟩) hS.2.2 dX7_isWordAt_53
        · refine lv_iload hx hb dX7_isWordAt_14 (lv_at hl 0 rfl) ?_
          refine va_ldcS hx hb hown hXa.2.2.2.1.2.1 dX7_isWordAt_16 ?_
          have h_5 : sx_n 1 = 152 := rfl
          refine jc_i (va_runV (As := []) (rest := [.int (iI a4_3)]) ⟨hx, hb, hml, hown, hts⟩ (sJ0_length_8abf5 l dC dI _ sK sV 1 (by decide)) (cwV 0 hts (jgoodV m_803 m_771 m_772 m_750 m_773) rfl rfl rfl (by decide +kernel) ⟨(Nat.le_of_ble_eq_true rfl), (Nat.le_of_ble_eq_true rfl)⟩) ⟨xS_blind, vk_recv hXa.2.2.1 (by decide) hS, fun U hU hW => ⟨rfl, xS_of hU hW hXa.2.2 hS hA⟩⟩ rfl rfl hl.1 rfl (lv_room (Nat.le_of_ble_eq_true rfl)) dX7_isWordAt_18 ⟨(Nat.le_of_ble_eq_true rfl), (Nat.le_of_ble_eq_true rfl)⟩) hP hS hA (fun r_6 H locs w_7 hP hS => ?_)
          obtain ⟨z_8, rfl, h_9, h_10⟩ := w_7
          refine xr_icmp_ge (tgt := 52) hx hb dX7_isWordAt_21 (by decide) (by omega) (by omega) (fun h_11 => ?_) (fun h_11 => ?_)
          · refine lv_iconst (v := iI 1) hx hb dX7_isWordAt_52 rfl ?_
            rw [← hQ]
            exact W.zret (v := iI 1) (ty := .boolean) hx hb hr (nb_bool (by omega) (by omega)) (fun t ht hW => ⟨⟨iI 1, (), rfl, ⟨1, rfl, by omega⟩, trivial⟩, hS.F ht⟩) hS.2.2 dX7_isWordAt_53
          · refine va_ldcS hx hb hown hXa.2.2.2.1.2.1 dX7_isWordAt_24 ?_
            refine lv_iload hx hb dX7_isWordAt_26 (lv_at hl 0 rfl) ?_
            refine jc_i (va_runV (As := [.int (iI a4_3)]) (rest := []) ⟨hx, hb, hml, hown, hts⟩ (sJ0_charAt_5068e l dC dI _ sK sV 1 a4_3 (by decide) (by omega) (by omega) (by omega)) (cwV 1 hts (jgoodV m_804 m_805 m_806 m_750 m_807) rfl rfl rfl (by decide +kernel) ⟨(Nat.le_of_ble_eq_true rfl), (Nat.le_of_ble_eq_true rfl)⟩) ⟨xS_blind, vk_recv hXa.2.2.1 (by decide) hS, fun U hU hW => ⟨rfl, xS_of hU hW hXa.2.2 hS hA⟩⟩ rfl rfl hl.1 rfl (lv_room (Nat.le_of_ble_eq_true rfl)) dX7_isWordAt_28 ⟨(Nat.le_of_ble_eq_true rfl), (Nat.le_of_ble_eq_true rfl)⟩) hP hS hA (fun r_12 H locs w_13 hP hS => ?_)
            obtain ⟨z_14, rfl, h_15, h_16⟩ := w_13
            refine lv_aload_n hx hb dX7_isWordAt_31 rfl (lv_at hl 1 rfl) ?_
            refine lv_iload_n hx hb dX7_isWordAt_32 rfl (lv_at hl 4 rfl) ?_
            refine lv_iload hx hb dX7_isWordAt_33 (lv_at hl 0 rfl) ?_
            refine xr_add hx hb dX7_isWordAt_35 ?_
            refine xr_kept (fun z_17 h_18 h_19 => ?_)
            refine lv_iload_n hx hb dX7_isWordAt_36 rfl (lv_at hl 2 rfl) ?_
            refine xr_sub hx hb dX7_isWordAt_37 ?_
            refine xr_kept (fun z_20 h_21 h_22 => ?_)
            refine jc_i (va_runV (As := [.int (iI z_20)]) (rest := [.int (iI z_14)]) ⟨hx, hb, hml, hown, hts⟩ (sX7_byteAt l dC dI _ L cid K N tW sK sV v p0 z_20 hI q0 (by omega)) (cwV 1 hts (jgoodV m_724 m_725 m_726 m_673 m_727) rfl rfl rfl (by decide +kernel) ⟨(Nat.le_of_ble_eq_true rfl), (Nat.le_of_ble_eq_true rfl)⟩) ⟨xP_blind, xrecv hK hP q0 rfl rfl, fun U hU hW => ⟨rfl, xP_of hU hW hP hK hDw hX hS hAw hAA⟩⟩ rfl rfl hl.1 rfl (lv_room (Nat.le_of_ble_eq_true rfl)) dX7_isWordAt_38 ⟨(Nat.le_of_ble_eq_true rfl), (Nat.le_of_ble_eq_true rfl)⟩) hP hS hA (fun r_23 H locs w_24 hP hS => ?_)
            obtain ⟨z_25, rfl, h_26⟩ := w_24
            refine xr_icmp_eq (tgt := 46) hx hb dX7_isWordAt_41 (by decide) (by omega) (by omega) (fun h_27 => ?_) (fun h_27 => ?_)
            · refine lv_iinc (v := iI (a4_3 + 1)) (lv' := [(4, .int (iI (a4_3 + 1))), (0, .ref p0.toNat), (1, .int (iI p1)), (2, .int (iI p2)), (3, .int (iI p3))]) hx hb dX7_isWordAt_46 hl (k := 0) rfl (iI_add _ _) (by decide) rfl (fun ls hl => ?_)
              refine lv_goto (tgt := 3) hx hb dX7_isWordAt_49 (by decide) ?_
              exact ih3 (a4_3 + 1) H locs ls (by omega) (by omega) hP hS hl
            · refine lv_iconst (v := iI 0) hx hb dX7_isWordAt_44 rfl ?_
              rw [← hQ]
              exact W.zret (v := iI 0) (ty := .boolean) hx hb hr (nb_bool (by omega) (by omega)) (fun t ht hW => ⟨⟨iI 0, (), rfl, ⟨0, rfl, by omega⟩, trivial⟩, hS.F ht⟩) hS.2.2 dX7_isWordAt_45
  exact L3 (((152 + 1 - p1 : Int)).toNat + 1) p1 H locs ls (by omega) (by omega) hP hS hl
