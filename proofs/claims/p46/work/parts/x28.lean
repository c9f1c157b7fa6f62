set_option maxHeartbeats 2000000 in
set_option maxRecDepth 100000 in
theorem sX7_closeSort (l : Launch) (dC : Nat → ClassId) (dI : Nat → Nat → Nat) (sz : Nat) (L : List Nat) (cid : Nat → ClassId) (K : Int → Nat) (N : Int → Int) (tW : Nat) (sK sV : Nat → Nat) (v : Int → Int → Int) (p0 : Int) (p1 : Int) (hI : xI L K N v) (q0 : ok L K p0 7) (q1 : rg p1) : Met l yX7_closeSort (jk yX7_closeSort cX7_closeSort 2 none) ({ frames := 0, cells := 0, slots := 0, locals := 0 }) (va_Pc [.ref p0.toNat, .int (iI p1)] (xP (dC, dI) (xG L cid K N v) (xT cid) tW sK sV sz)) (va_Qv (fun (u : (Int → Int → Int)) => (xI L K N u) ∧ (fr K [(27, (-1))] u v)) (fun u t => va_P (dC, dI) vwCl (xG L cid K N u) t.heap ∧ va_K (dC, dI) vwCl (xT cid) t ∧ va_D (va_A (xG L cid K N v) sz) (xG L cid K N u)) (va_A (xG L cid K N v) sz)) 0 0 (va_A (xG L cid K N v) sz) := by
  refine Met.ofW (cc := cX7_closeSort) (maxL := 2) (ret := none) (by decide) rfl ?_
  intro p e s m args below meth c s₁ B hml hv
  obtain ⟨rfl, ⟨hsz, hP, hK, hD0⟩, hX⟩ := hv
  have hx := B.exec
  have hb := B.bytes
  have hr := B.returns
  have hts := atoms_spec (ws := (jk yX7_closeSort cX7_closeSort 2 none)) B.pre
  have hj : ∀ w ∈ jw, w.before ([.ref p0.toNat, .int (iI p1)] : List Value).toArray s = true := fun w h => hts w (jm h)
  have hown : s.vm.findClass RX7 = some m.cls := findClass_of_methodNamed B.named
  subst hsz
  have hD := hD0.self (sz := s.heap.size)
  generalize hAe : (va_A (xG L cid K N v) s.heap.size) = A at hD hX ⊢
  have hA : ∀ q : Nat, s.heap.size ≤ q → A q := fun q h => by rw [← hAe]; exact Or.inr h
  have hS : va_S A s.heap s.heap [] := va_S.rf
  have hXa := hX
  have hP : va_P (dC, dI) vwCl (xG L cid K N v) s.heap := hP
  have hl := lv_entry ([.ref p0.toNat, .int (iI p1)]) (n := 2) (Nat.le_of_ble_eq_true rfl)
  rw [lg_entry_eq]
  generalize (lg_sl ([.ref p0.toNat, .int (iI p1)]) ++ List.replicate (2 - (lg_sl ([.ref p0.toNat, .int (iI p1)])).length) Slot.unset).toArray = ls at hl ⊢
  have hl : lv_has ls 2 [(0, .ref p0.toNat), (1, .int (iI p1))] := hl
  generalize hQ : MQ below (va_Qv (fun (u : (Int → Int → Int)) => (xI L K N u) ∧ (fr K [(27, (-1))] u v)) (fun u t => va_P (dC, dI) vwCl (xG L cid K N u) t.heap ∧ va_K (dC, dI) vwCl (xT cid) t ∧ va_D A (xG L cid K N u)) A) ([.ref p0.toNat, .int (iI p1)] : List Value).toArray s 0 0 A = Q
  suffices ST : ∀ (H : Heap) (locs : List Loc), va_P (dC, dI) vwCl (xG L cid K N v) H → va_S A s.heap H locs → W p l e ({ frames := 0, cells := 0, slots := 0, locals := 0 }) s m ([.ref p0.toNat, .int (iI p1)] : List Value).toArray below meth c H locs 0 0 Q (F0 m 0 ls []) from ST _ _ hP hS
  clear hP hS
  intro H locs hP hS
  refine lv_iload_n hx hb dX7_closeSort_0 rfl (lv_at hl 1 rfl) ?_
  refine xr_if_lt (tgt := 20) hx hb dX7_closeSort_1 (by decide) (by omega) (fun h_1 => ?_) (fun h_1 => ?_)
  · rw [← hQ]
    exact W.vret hx hb hr (fun t ht hW => ⟨⟨v, rfl, ⟨hI, fr_rf⟩, by rw [ht]; exact hP, va_K.moved hW.alike hK, hD⟩, hS.F ht⟩) hS.2.2 dX7_closeSort_20
  · refine lv_iload_n hx hb dX7_closeSort_4 rfl (lv_at hl 1 rfl) ?_
    refine lv_bipush (v := iI 14) hx hb dX7_closeSort_5 rfl ?_
    refine xr_icmp_ge (tgt := 20) hx hb dX7_closeSort_7 (by decide) (by omega) (by omega) (fun h_2 => ?_) (fun h_2 => ?_)
    · rw [← hQ]
      exact W.vret hx hb hr (fun t ht hW => ⟨⟨v, rfl, ⟨hI, fr_rf⟩, by rw [ht]; exact hP, va_K.moved hW.alike hK, hD⟩, hS.F ht⟩) hS.2.2 dX7_closeSort_20
    · refine lv_aload_n hx hb dX7_closeSort_10 rfl (lv_at hl 0 rfl) ?_
      have h_3 : ok L K (v p0 12) 27 := xf_7_12 hI q0
      have h_4 : N (v p0 12) = 14 := xn_27 hI h_3
      refine gx_RX7_36 (y := v p0 12) hx hb hj hown hK hP q0 ((xf_7_12 hI q0).1) rfl dX7_closeSort_11 ?_
      refine lv_iload_n hx hb dX7_closeSort_14 rfl (lv_at hl 1 rfl) ?_
      refine lv_aload_n hx hb dX7_closeSort_15 rfl (lv_at hl 0 rfl) ?_
      have h_5 : 0 ≤ v p0 10 ∧ v p0 10 ≤ 600 := xf_7_10 hI q0
      refine gx_RX7_56 (y := v p0 10) hx hb hj hown hK hP q0 rfl dX7_closeSort_16 ?_
      refine sx_27 (y := v p0 10) hx hb hK hP hD hS hI h_3 (by omega) (by omega) (by omega) ⟨by omega, by omega⟩ dX7_closeSort_19 (fun v_6 H locs f_7 e_8 o_9 I_10 hP hD hS => ?_)
      rw [← hQ]
      exact W.vret hx hb hr (fun t ht hW => ⟨⟨v_6, rfl, ⟨I_10, (fr_tr f_7 rfl fr_rf)⟩, by rw [ht]; exact hP, va_K.moved hW.alike hK, hD⟩, hS.F ht⟩) hS.2.2 dX7_closeSort_20
set_option maxHeartbeats 2000000 in
set_option maxRecDepth 100000 in
theorem sX7_readClause (l : Launch) (dC : Nat → ClassId) (dI : Nat → Nat → Nat) (sz : Nat) (L : List Nat) (cid : Nat → ClassId) (K : Int → Nat) (N : Int → Int) (tW : Nat) (sK sV : Nat → Nat) (v : Int → Int → Int) (p0 : Int) (hI : xI L K N v) (q0 : ok L K p0 7) : Met l yX7_readClause (jk yX7_readClause cX7_readClause 2 none) ({ frames := 33, cells := 0, slots := 0, locals := 749 }) (va_Pc [.ref p0.toNat] (xP (dC, dI) (xG L cid K N v) (xT cid) tW sK sV sz)) (va_Qv (fun (u : (Int → Int → Int)) => (xI L K N u) ∧ (fr K [(7, 7), (7, 8), (7, 10), (7, 14), (25, (-1)), (26, (-1)), (27, (-1)), (28, (-1))] u v)) (fun u t => va_P (dC, dI) vwCl (xG L cid K N u) t.heap ∧ va_K (dC, dI) vwCl (xT cid) t ∧ va_D (va_A (xG L cid K N v) sz) (xG L cid K N u)) (va_A (xG L cid K N v) sz)) 0 0 (va_A (xG L cid K N v) sz) := by
  refine Met.ofW (cc := cX7_readClause) (maxL := 2) (ret := none) (by decide) rfl ?_
  intro p e s m args below meth c s₁ B hml hv
  obtain ⟨rfl, ⟨hsz, hP, hK, hD0⟩, hX⟩ := hv
  have hx := B.exec
  have hb := B.bytes
  have hr := B.returns
  have hts := atoms_spec (ws := (jk yX7_readClause cX7_readClause 2 none)) B.pre
  have hj : ∀ w ∈ jw, w.before ([.ref p0.toNat] : List Value).toArray s = true := fun w h => hts w (jm h)
  have hown : s.vm.findClass RX7 = some m.cls := findClass_of_methodNamed B.named
  subst hsz
  have hD := hD0.self (sz := s.heap.size)
  generalize hAe : (va_A (xG L cid K N v) s.heap.size) = A at hD hX ⊢
  have hA : ∀ q : Nat, s.heap.size ≤ q → A q := fun q h => by rw [← hAe]; exact Or.inr h
  have hS : va_S A s.heap s.heap [] := va_S.rf
  have hXa := hX
  have hP : va_P (dC, dI) vwCl (xG L cid K N v) s.heap := hP
  have hl := lv_entry ([.ref p0.toNat]) (n := 2) (Nat.le_of_ble_eq_true rfl)
  rw [lg_entry_eq]
  generalize (lg_sl ([.ref p0.toNat]) ++ List.replicate (2 - (lg_sl ([.ref p0.toNat])).length) Slot.unset).toArray = ls at hl ⊢
  have hl : lv_has ls 2 [(0, .ref p0.toNat)] := hl
  generalize hQ : MQ below (va_Qv (fun (u : (Int → Int → Int)) => (xI L K N u) ∧ (fr K [(7, 7), (7, 8), (7, 10), (7, 14), (25, (-1)), (26, (-1)), (27, (-1)), (28, (-1))] u v)) (fun u t => va_P (dC, dI) vwCl (xG L cid K N u) t.heap ∧ va_K (dC, dI) vwCl (xT cid) t ∧ va_D A (xG L cid K N u)) A) ([.ref p0.toNat] : List Value).toArray s 0 0 A = Q
  suffices ST : ∀ (H : Heap) (locs : List Loc), va_P (dC, dI) vwCl (xG L cid K N v) H → va_S A s.heap H locs → W p l e ({ frames := 33, cells := 0, slots := 0, locals := 749 }) s m ([.ref p0.toNat] : List Value).toArray below meth c H locs 0 0 Q (F0 m 0 ls []) from ST _ _ hP hS
  clear hP hS
  intro H locs hP hS
  refine lv_aload_n hx hb dX7_readClause_0 rfl (lv_at hl 0 rfl) ?_
  refine jc_i (va_runV (As := []) (rest := []) ⟨hx, hb, hml, hown, hts⟩ (sX7_word l dC dI _ L cid K N tW sK sV v p0 hI q0) (cwV 0 hts (jgoodV m_679 m_680 m_681 m_677 m_682) rfl rfl rfl (by decide +kernel) ⟨(Nat.le_of_ble_eq_true rfl), (Nat.le_of_ble_eq_true rfl)⟩) ⟨xP_blind, xrecv hK hP q0 rfl rfl, fun U hU hW => ⟨rfl, xP_of hU hW hP hK hD hX hS (fun _ h => h) hA⟩⟩ rfl rfl hl.1 rfl (lv_room (Nat.le_of_ble_eq_true rfl)) dX7_readClause_1 ⟨(Nat.le_of_ble_eq_true rfl), (Nat.le_of_ble_eq_true rfl)⟩) hP hS hA (fun r_1 H locs w_2 hP hS => ?_)
  obtain ⟨z_3, rfl, h_4, h_5⟩ := w_2
  have h_6 : (-2147483648) ≤ v p0 7 ∧ v p0 7 ≤ 2147483647 := xf_7_7 hI q0
  have J78 : ∀ (vc78 : Int → Int → Int) (H : Heap) (locs : List Loc) (ls : Array Slot), fr K [(7, 7), (7, 8), (7, 10), (7, 14), (25, (-1)), (26, (-1)), (27, (-1)), (28, (-1))] vc78 v → xI L K N vc78 → va_P (dC, dI) vwCl (xG L cid K N vc78) H → va_D A (xG L cid K N vc78) → va_S A s.heap H locs → lv_has ls 2 [(0, .ref p0.toNat)] → W p l e ({ frames := 33, cells := 0, slots := 0, locals := 749 }) s m ([.ref p0.toNat] : List Value).toArray below meth c H locs 0 0 Q (F0 m 78 ls []) := by
    intro vc78 H locs ls f_7 I_8 hP hD hS hl
    refine lv_aload_n hx hb dX7_readClause_78 rfl (lv_at hl 0 rfl) ?_
    refine lv_bipush (v := iI 59) hx hb dX7_readClause_79 rfl ?_
    refine jcg_v (va_runV (As := [.int (iI 59)]) (rest := []) ⟨hx, hb, hml, hown, hts⟩ (sX7_expect l dC dI _ L cid K N tW sK sV vc78 p0 59 I_8 q0 (by omega)) (cwV 1 hts (jgoodV m_708 m_709 m_710 m_677 m_711) rfl rfl rfl (by decide +kernel) ⟨(Nat.le_of_ble_eq_true rfl), (Nat.le_of_ble_eq_true rfl)⟩) ⟨xP_blind, xrecv hK hP q0 rfl rfl, fun U hU hW => ⟨rfl, xP_of hU hW hP hK hD hX hS (fun _ h => h) hA⟩⟩ rfl rfl hl.1 rfl (lv_room (Nat.le_of_ble_eq_true rfl)) dX7_readClause_81 ⟨(Nat.le_of_ble_eq_true rfl), (Nat.le_of_ble_eq_true rfl)⟩) hD hS hA (fun v_12 H locs w_10 hP hK hD hS => ?_)
    obtain ⟨I_14, f_13⟩ := w_10
    have hP : va_P (dC, dI) vwCl (xG L cid K N v_12) H := hP
    have hD : va_D A (xG L cid K N v_12) := hD
    rw [← hQ]
    exact W.vret hx hb hr (fun t ht hW => ⟨⟨v_12, rfl, ⟨I_14, (fr_tr f_13 rfl (fr_tr f_7 rfl fr_rf))⟩, by rw [ht]; exact hP, va_K.moved hW.alike hK, hD⟩, hS.F ht⟩) hS.2.2 dX7_readClause_84
  refine xr_if_ne (tgt := 18) hx hb dX7_readClause_4 (by decide) (by omega) (fun h_15 => ?_) (fun h_15 => ?_)
  · refine lv_aload_n hx hb dX7_readClause_18 rfl (lv_at hl 0 rfl) ?_
    refine jcg_i (va_runV (As := []) (rest := []) ⟨hx, hb, hml, hown, hts⟩ (sX7_openSort l dC dI _ L cid K N tW sK sV v p0 hI q0) (cwV 0 hts (jgoodV m_732 m_733 m_734 m_677 m_735) rfl rfl rfl (by decide +kernel) ⟨(Nat.le_of_ble_eq_true rfl), (Nat.le_of_ble_eq_true rfl)⟩) ⟨xP_blind, xrecv hK hP q0 rfl rfl, fun U hU hW => ⟨rfl, xP_of hU hW hP hK hD hX hS (fun _ h => h) hA⟩⟩ rfl rfl hl.1 rfl (lv_room (Nat.le_of_ble_eq_true rfl)) dX7_readClause_19 ⟨(Nat.le_of_ble_eq_true rfl), (Nat.le_of_ble_eq_true rfl)⟩) hD hS hA (fun r_16 v_20 H locs w_17 hP hK hD hS => ?_)
    obtain ⟨z_18, rfl, I_22, f_21, h_19⟩ := w_17
    have hP : va_P (dC, dI) vwCl (xG L cid K N v_20) H := hP
    have hD : va_D A (xG L cid K N v_20) := hD
    refine lv_istore_n (i := 1) (lv' := [(1, .int (iI z_18)), (0, .ref p0.toNat)]) hx hb dX7_readClause_22 rfl hl (by decide) rfl (fun ls hl => ?_)
    refine lv_iload_n hx hb dX7_readClause_23 rfl (lv_at hl 0 rfl) ?_
    have J73 : ∀ (vc73 : Int → Int → Int) (H : Heap) (locs : List Loc) (ls : Array Slot), fr K [(7, 7), (7, 8), (7, 10), (25, (-1))] vc73 v_20 → xI L K N vc73 → va_P (dC, dI) vwCl (xG L cid K N vc73) H → va_D A (xG L cid K N vc73) → va_S A s.heap H locs → lv_has ls 2 [(1, .int (iI z_18)), (0, .ref p0.toNat)] → W p l e ({ frames := 33, cells := 0, slots := 0, locals := 749 }) s m ([.ref p0.toNat] : List Value).toArray below meth c H locs 0 0 Q (F0 m 73 ls []) := by
      intro vc73 H locs ls f_23 I_24 hP hD hS hl
      refine lv_aload_n hx hb dX7_readClause_73 rfl (lv_at hl 1 rfl) ?_
      refine lv_iload_n hx hb dX7_readClause_74 rfl (lv_at hl 0 rfl) ?_
      refine jcg_v (va_runV (As := [.int (iI z_18)]) (rest := []) ⟨hx, hb, hml, hown, hts⟩ (sX7_closeSort l dC dI _ L cid K N tW sK sV vc73 p0 z_18 I_24 q0 (by omega)) (cwV 1 hts (jgoodV m_736 m_737 m_738 m_677 m_739) rfl rfl rfl (by decide +kernel) ⟨(Nat.le_of_ble_eq_true rfl), (Nat.le_of_ble_eq_true rfl)⟩) ⟨xP_blind, xrecv hK hP q0 rfl rfl, fun U hU hW => ⟨rfl, xP_of hU hW hP hK hD hX hS (fun _ h => h) hA⟩⟩ rfl rfl hl.1 rfl (lv_room (Nat.le_of_ble_eq_true rfl)) dX7_readClause_75 ⟨(Nat.le_of_ble_eq_true rfl), (Nat.le_of_ble_eq_true rfl)⟩) hD hS hA (fun v_28 H locs w_26 hP hK hD hS => ?_)
      obtain ⟨I_30, f_29⟩ := w_26
      have hP : va_P (dC, dI) vwCl (xG L cid K N v_28) H := hP
      have hD : va_D A (xG L cid K N v_28) := hD
      exact J78 v_28 H locs ls (fr_tr f_29 rfl (fr_tr f_23 rfl (fr_tr f_21 rfl fr_rf))) I_30 hP hD hS (lv_sub hl [1] rfl)
    refine xr_if_ne (tgt := 36) hx hb dX7_readClause_24 (by decide) (by omega) (fun h_31 => ?_) (fun h_31 => ?_)
    · refine lv_iload_n hx hb dX7_readClause_36 rfl (lv_at hl 0 rfl) ?_
      refine lv_iconst (v := iI 1) hx hb dX7_readClause_37 rfl ?_
      refine xr_icmp_ne (tgt := 50) hx hb dX7_readClause_38 (by decide) (by omega) (by omega) (fun h_32 => ?_) (fun h_32 => ?_)
      · refine lv_iload_n hx hb dX7_readClause_50 rfl (lv_at hl 0 rfl) ?_
        refine lv_iconst (v := iI 2) hx hb dX7_readClause_51 rfl ?_
        have J60 : ∀ (H : Heap) (locs : List Loc) (ls : Array Slot), va_P (dC, dI) vwCl (xG L cid K N v_20) H → va_D A (xG L cid K N v_20) → va_S A s.heap H locs → lv_has ls 2 [(1, .int (iI z_18)), (0, .ref p0.toNat)] → W p l e ({ frames := 33, cells := 0, slots := 0, locals := 749 }) s m ([.ref p0.toNat] : List Value).toArray below meth c H locs 0 0 Q (F0 m 60 ls []) := by
          intro H locs ls hP hD hS hl
          refine lv_aload_n hx hb dX7_readClause_60 rfl (lv_at hl 1 rfl) ?_
          refine lv_iconst (v := iI 0) hx hb dX7_readClause_61 rfl ?_
          refine jcg_v (va_runV (As := [.int (iI 0)]) (rest := []) ⟨hx, hb, hml, hown, hts⟩ (sX7_readEither_q0 l dC dI _ L cid K N tW sK sV v_20 p0 0 I_22 q0 (by omega) (by omega)) (cwV 1 hts (jgoodV m_724 m_725 m_726 m_677 m_727) rfl rfl rfl (by decide +kernel) ⟨(Nat.le_of_ble_eq_true rfl), (Nat.le_of_ble_eq_true rfl)⟩) ⟨xP_blind, xrecv hK hP q0 rfl rfl, fun U hU hW => ⟨rfl, xP_of hU hW hP hK hD hX hS (fun _ h => h) hA⟩⟩ rfl rfl hl.1 rfl (lv_room (Nat.le_of_ble_eq_true rfl)) dX7_readClause_62 ⟨(Nat.le_of_ble_eq_true rfl), (Nat.le_of_ble_eq_true rfl)⟩) hD hS hA (fun v_36 H locs w_34 hP hK hD hS => ?_)
          obtain ⟨I_38, f_37⟩ := w_34
          have hP : va_P (dC, dI) vwCl (xG L cid K N v_36) H := hP
          have hD : va_D A (xG L cid K N v_36) := hD
          refine lv_goto (tgt := 73) hx hb dX7_readClause_65 (by decide) ?_
          exact J73 v_36 H locs ls (fr_tr f_37 rfl fr_rf) I_38 hP hD hS hl
        refine xr_icmp_eq (tgt := 60) hx hb dX7_readClause_52 (by decide) (by omega) (by omega) (fun h_39 => ?_) (fun h_39 => ?_)
        · exact J60 H locs ls hP hD hS hl
        · refine lv_iload_n hx hb dX7_readClause_55 rfl (lv_at hl 0 rfl) ?_
          refine lv_iconst (v := iI 3) hx hb dX7_readClause_56 rfl ?_
          refine xr_icmp_ne (tgt := 68) hx hb dX7_readClause_57 (by decide) (by omega) (by omega) (fun h_40 => ?_) (fun h_40 => ?_)
          · refine lv_aload_n hx hb dX7_readClause_68 rfl (lv_at hl 1 rfl) ?_
            refine lv_iconst (v := iI 0) hx hb dX7_readClause_69 rfl ?_
            refine jcg_v (va_runV (As := [.int (iI 0)]) (rest := []) ⟨hx, hb, hml, hown, hts⟩ (sX7_readSum_q0 l dC dI _ L cid K N tW sK sV v_20 p0 0 I_22 q0 (by omega) (by omega)) (cwV 1 hts (jgoodV m_704 m_705 m_706 m_677 m_707) rfl rfl rfl (by decide +kernel) ⟨(Nat.le_of_ble_eq_true rfl), (Nat.le_of_ble_eq_true rfl)⟩) ⟨xP_blind, xrecv hK hP q0 rfl rfl, fun U hU hW => ⟨rfl, xP_of hU hW hP hK hD hX hS (fun _ h => h) hA⟩⟩ rfl rfl hl.1 rfl (lv_room (Nat.le_of_ble_eq_true rfl)) dX7_readClause_70 ⟨(Nat.le_of_ble_eq_true rfl), (Nat.le_of_ble_eq_true rfl)⟩) hD hS hA (fun v_44 H locs w_42 hP hK hD hS => ?_)
            obtain ⟨I_46, f_45⟩ := w_42
            have hP : va_P (dC, dI) vwCl (xG L cid K N v_44) H := hP
            have hD : va_D A (xG L cid K N v_44) := hD
            exact J73 v_44 H locs ls (fr_tr f_45 rfl fr_rf) I_46 hP hD hS hl
          · exact J60 H locs ls hP hD hS hl
      · refine lv_aload_n hx hb dX7_readClause_41 rfl (lv_at hl 1 rfl) ?_
        refine lv_bipush (v := iI 23) hx hb dX7_readClause_42 rfl ?_
        refine jcg_v (va_runV (As := [.int (iI 23)]) (rest := []) ⟨hx, hb, hml, hown, hts⟩ (sX7_readChoice l dC dI _ L cid K N tW sK sV v_20 p0 23 I_22 q0 (by omega)) (cwV 1 hts (jgoodV m_740 m_741 m_742 m_677 m_743) rfl rfl rfl (by decide +kernel) ⟨(Nat.le_of_ble_eq_true rfl), (Nat.le_of_ble_eq_true rfl)⟩) ⟨xP_blind, xrecv hK hP q0 rfl rfl, fun U hU hW => ⟨rfl, xP_of hU hW hP hK hD hX hS (fun _ h => h) hA⟩⟩ rfl rfl hl.1 rfl (lv_room (Nat.le_of_ble_eq_true rfl)) dX7_readClause_44 ⟨(Nat.le_of_ble_eq_true rfl), (Nat.le_of_ble_eq_true rfl)⟩) hD hS hA (fun v_50 H locs w_48 hP hK hD hS => ?_)
        obtain ⟨I_52, f_51⟩ := w_48
        have hP : va_P (dC, dI) vwCl (xG L cid K N v_50) H := hP
        have hD : va_D A (xG L cid K N v_50) := hD
        refine lv_goto (tgt := 73) hx hb dX7_readClause_47 (by decide) ?_
        exact J73 v_50 H locs ls (fr_tr f_51 rfl fr_rf) I_52 hP hD hS hl
    · refine lv_aload_n hx hb dX7_readClause_27 rfl (lv_at hl 1 rfl) ?_
      refine lv_bipush (v := iI 21) hx hb dX7_readClause_28 rfl ?_
      refine jcg_v (va_runV (As := [.int (iI 21)]) (rest := []) ⟨hx, hb, hml, hown, hts⟩ (sX7_readChoice l dC dI _ L cid K N tW sK sV v_20 p0 21 I_22 q0 (by omega)) (cwV 1 hts (jgoodV m_740 m_741 m_742 m_677 m_743) rfl rfl rfl (by decide +kernel) ⟨(Nat.le_of_ble_eq_true rfl), (Nat.le_of_ble_eq_true rfl)⟩) ⟨xP_blind, xrecv hK hP q0 rfl rfl, fun U hU hW => ⟨rfl, xP_of hU hW hP hK hD hX hS (fun _ h => h) hA⟩⟩ rfl rfl hl.1 rfl (lv_room (Nat.le_of_ble_eq_true rfl)) dX7_readClause_30 ⟨(Nat.le_of_ble_eq_true rfl), (Nat.le_of_ble_eq_true rfl)⟩) hD hS hA (fun v_56 H locs w_54 hP hK hD hS => ?_)
      obtain ⟨I_58, f_57⟩ := w_54
      have hP : va_P (dC, dI) vwCl (xG L cid K N v_56) H := hP
      have hD : va_D A (xG L cid K N v_56) := hD
      refine lv_goto (tgt := 73) hx hb dX7_readClause_33 (by decide) ?_
      exact J73 v_56 H locs ls (fr_tr f_57 rfl fr_rf) I_58 hP hD hS hl
  · refine lv_aload_n hx hb dX7_readClause_7 rfl (lv_at hl 0 rfl) ?_
    refine jcg_v (va_runV (As := []) (rest := []) ⟨hx, hb, hml, hown, hts⟩ (sX7_advance l dC dI _ L cid K N tW sK sV v p0 hI q0) (cwV 0 hts (jgoodV m_692 m_693 m_694 m_677 m_695) rfl rfl rfl (by decide +kernel) ⟨(Nat.le_of_ble_eq_true rfl), (Nat.le_of_ble_eq_true rfl)⟩) ⟨xP_blind, xrecv hK hP q0 rfl rfl, fun U hU hW => ⟨rfl, xP_of hU hW hP hK hD hX hS (fun _ h => h) hA⟩⟩ rfl rfl hl.1 rfl (lv_room (Nat.le_of_ble_eq_true rfl)) dX7_readClause_8 ⟨(Nat.le_of_ble_eq_true rfl), (Nat.le_of_ble_eq_true rfl)⟩) hD hS hA (fun v_62 H locs w_60 hP hK hD hS => ?_)
    obtain ⟨I_64, f_63⟩ := w_60
    have hP : va_P (dC, dI) vwCl (xG L cid K N v_62) H := hP
    have hD : va_D A (xG L cid K N v_62) := hD
    refine lv_aload_n hx hb dX7_readClause_11 rfl (lv_at hl 0 rfl) ?_
    refine jcg_v (va_runV (As := []) (rest := []) ⟨hx, hb, hml, hown, hts⟩ (sX7_readSkip l dC dI _ L cid K N tW sK sV v_62 p0 I_64 q0) (cwV 0 hts (jgoodV m_744 m_745 m_746 m_677 m_747) rfl rfl rfl (by decide +kernel) ⟨(Nat.le_of_ble_eq_true rfl), (Nat.le_of_ble_eq_true rfl)⟩) ⟨xP_blind, xrecv hK hP q0 rfl rfl, fun U hU hW => ⟨rfl, xP_of hU hW hP hK hD hX hS (fun _ h => h) hA⟩⟩ rfl rfl hl.1 rfl (lv_room (Nat.le_of_ble_eq_true rfl)) dX7_readClause_12 ⟨(Nat.le_of_ble_eq_true rfl), (Nat.le_of_ble_eq_true rfl)⟩) hD hS hA (fun v_68 H locs w_66 hP hK hD hS => ?_)
    obtain ⟨I_70, f_69⟩ := w_66
    have hP : va_P (dC, dI) vwCl (xG L cid K N v_68) H := hP
    have hD : va_D A (xG L cid K N v_68) := hD
    refine lv_goto (tgt := 78) hx hb dX7_readClause_15 (by decide) ?_
    exact J78 v_68 H locs ls (fr_tr f_69 rfl (fr_tr f_63 rfl fr_rf)) I_70 hP hD hS hl
set_option maxHeartbeats 2000000 in
set_option maxRecDepth 100000 in
theorem sJ7_fill_53178_from (l : Launch) (dC : Nat → ClassId) (dI : Nat → Nat → Nat) (sz : Nat) (L : List Nat) (cid : Nat → ClassId) (K : Int → Nat) (N : Int → Int) (tW : Nat) (sK sV : Nat → Nat) (v : Int → Int → Int) (p1 : Int) (p2 : Int) (hI : xI L K N v) (q1 : ok L K p1 26) (q2 : rg p2) : Met l yJ7_fill_53178 (jk yJ7_fill_53178 cJ7_fill_53178 4 none) ({ frames := 0, cells := 0, slots := 0, locals := 0 }) (va_Pc [.ref p1.toNat, .int (iI p2)] (xP (dC, dI) (xG L cid K N v) (xT cid) tW sK sV sz)) (va_Qv (fun (u : (Int → Int → Int)) => (xI L K N u) ∧ (fr K [(26, (-1))] u v)) (fun u t => va_P (dC, dI) vwCl (xG L cid K N u) t.heap ∧ va_K (dC, dI) vwCl (xT cid) t ∧ va_D (va_A (xG L cid K N v) sz) (xG L cid K N u)) (va_A (xG L cid K N v) sz)) 0 0 (va_A (xG L cid K N v) sz) := by
  refine Met.ofW (cc := cJ7_fill_53178) (maxL := 4) (ret := none) (by decide) rfl ?_
  intro p e s m args below meth c s₁ B hml hv
  obtain ⟨rfl, ⟨hsz, hP, hK, hD0⟩, hX⟩ := hv
  have hx := B.exec
  have hb := B.bytes
  have hr := B.returns
  have hts := atoms_spec (ws := (jk yJ7_fill_53178 cJ7_fill_53178 4 none)) B.pre
  have hj : ∀ w ∈ jw, w.before ([.ref p1.toNat, .int (iI p2)] : List Value).toArray s = true := fun w h => hts w (jm h)
  have hown : s.vm.findClass RJ7 = some m.cls := findClass_of_methodNamed B.named
  subst hsz
  have hD := hD0.self (sz := s.heap.size)
  generalize hAe : (va_A (xG L cid K N v) s.heap.size) = A at hD hX ⊢
  have hA : ∀ q : Nat, s.heap.size ≤ q → A q := fun q h => by rw [← hAe]; exact Or.inr h
  have hS : va_S A s.heap s.heap [] := va_S.rf
  have hXa := hX
  have hP : va_P (dC, dI) vwCl (xG L cid K N v) s.heap := hP
  have hl := lv_entry ([.ref p1.toNat, .int (iI p2)]) (n := 4) (Nat.le_of_ble_eq_true rfl)
  rw [lg_entry_eq]
  generalize (lg_sl ([.ref p1.toNat, .int (iI p2)]) ++ List.replicate (4 - (lg_sl ([.ref p1.toNat, .int (iI p2)])).length) Slot.unset).toArray = ls at hl ⊢
  have hl : lv_has ls 4 [(0, .ref p1.toNat), (1, .int (iI p2))] := hl
  generalize hQ : MQ below (va_Qv (fun (u : (Int → Int → Int)) => (xI L K N u) ∧ (fr K [(26, (-1))] u v)) (fun u t => va_P (dC, dI) vwCl (xG L cid K N u) t.heap ∧ va_K (dC, dI) vwCl (xT cid) t ∧ va_D A (xG L cid K N u)) A) ([.ref p1.toNat, .int (iI p2)] : List Value).toArray s 0 0 A = Q
  suffices ST : ∀ (H : Heap) (locs : List Loc), va_P (dC, dI) vwCl (xG L cid K N v) H → va_S A s.heap H locs → W p l e ({ frames := 0, cells := 0, slots := 0, locals := 0 }) s m ([.ref p1.toNat, .int (iI p2)] : List Value).toArray below meth c H locs 0 0 Q (F0 m 0 ls []) from ST _ _ hP hS
  clear hP hS
  intro H locs hP hS
  have h_1 : N p1 = 14 := xn_26 hI q1
  refine lv_iconst (v := iI 0) hx hb dJ7_fill_53178_0 rfl ?_
  refine lv_istore_n (i := 2) (lv' := [(2, .int (iI 0)), (0, .ref p1.toNat), (1, .int (iI p2))]) hx hb dJ7_fill_53178_1 rfl hl (by decide) rfl (fun ls hl => ?_)
  refine lv_aload_n hx hb dJ7_fill_53178_2 rfl (lv_at hl 1 rfl) ?_
  refine lx_26 (y := 14) hx hb hK hP q1 (by omega) (by omega) dJ7_fill_53178_3 ?_
  refine lv_istore_n (i := 3) (lv' := [(3, .int (iI 14)), (2, .int (iI 0)), (0, .ref p1.toNat), (1, .int (iI p2))]) hx hb dJ7_fill_53178_4 rfl hl (by decide) rfl (fun ls hl => ?_)
  have L5 : ∀ (n5 : Nat) (a2_5 : Int) (vc5 : Int → Int → Int) (H : Heap) (locs : List Loc) (ls : Array Slot), (0 ≤ a2_5 ∧ a2_5 ≤ 2147483647) → (0 < (n5 : Int) ∧ 14 - a2_5 < (n5 : Int)) → fr K [(26, (-1))] vc5 v → xI L K N vc5 → va_P (dC, dI) vwCl (xG L cid K N vc5) H → va_D A (xG L cid K N vc5) → va_S A s.heap H locs → lv_has ls 4 [(3, .int (iI 14)), (2, .int (iI a2_5)), (0, .ref p1.toNat), (1, .int (iI p2))] → W p l e ({ frames := 0, cells := 0, slots := 0, locals := 0 }) s m ([.ref p1.toNat, .int (iI p2)] : List Value).toArray below meth c H locs 0 0 Q (F0 m 5 ls []) := by
    intro n5
    induction n5 with
    | zero =>
      intro a2_5 vc5 H locs ls h_2 hm5 f_3 I_4 hP hD hS hl
      exfalso; omega
    | succ n5 ih5 =>
      intro a2_5 vc5 H locs ls h_5 hm5 f_6 I_7 hP hD hS hl
      refine lv_iload_n hx hb dJ7_fill_53178_5 rfl (lv_at hl 1 rfl) ?_
      refine lv_iload_n hx hb dJ7_fill_53178_6 rfl (lv_at hl 0 rfl) ?_
      refine xr_icmp_ge (tgt := 20) hx hb dJ7_fill_53178_7 (by decide) (by omega) (by omega) (fun h_8 => ?_) (fun h_8 => ?_)
      · rw [← hQ]
        exact W.vret hx hb hr (fun t ht hW => ⟨⟨vc5, rfl, ⟨I_7, (fr_tr f_6 rfl fr_rf)⟩, by rw [ht]; exact hP, va_K.moved hW.alike hK, hD⟩, hS.F ht⟩) hS.2.2 dJ7_fill_53178_20
      · refine lv_aload_n hx hb dJ7_fill_53178_10 rfl (lv_at hl 2 rfl) ?_
        refine lv_iload_n hx hb dJ7_fill_53178_11 rfl (lv_at hl 1 rfl) ?_
        refine lv_iload_n hx hb dJ7_fill_53178_12 rfl (lv_at hl 3 rfl) ?_
        refine sx_26 (y := p2) hx hb hK hP hD hS I_7 q1 (by omega) (by omega) (by omega) ⟨by omega, by omega⟩ dJ7_fill_53178_13 (fun v_9 H locs f_10 e_11 o_12 I_13 hP hD hS => ?_)
        refine lv_iinc (v := iI (a2_5 + 1)) (lv' := [(2, .int (iI (a2_5 + 1))), (3, .int (iI 14)), (0, .ref p1.toNat), (1, .int (iI p2))]) hx hb dJ7_fill_53178_14 hl (k := 1) rfl (iI_add _ _) (by decide) rfl (fun ls hl => ?_)
        refine lv_goto (tgt := 5) hx hb dJ7_fill_53178_17 (by decide) ?_
        exact ih5 (a2_5 + 1) v_9 H locs ls (by omega) (by omega) (fr_tr f_10 rfl (fr_tr f_6 rfl fr_rf)) I_13 hP hD hS (lv_sub hl [1, 0, 2, 3] rfl)
  exact L5 (((14 - 0 : Int)).toNat + 1) 0 v H locs ls (by omega) (by omega) fr_rf hI hP hD hS hl
set_option maxHeartbeats 2000000 in
set_option maxRecDepth 100000 in
theorem sJ7_fill_53178_names (l : Launch) (dC : Nat → ClassId) (dI : Nat → Nat → Nat) (sz : Nat) (L : List Nat) (cid : Nat → ClassId) (K : Int → Nat) (N : Int → Int) (tW : Nat) (sK sV : Nat → Nat) (v : Int → Int → Int) (p1 : Int) (p2 : Int) (hI : xI L K N v) (q1 : ok L K p1 33) (q2 : rg p2) : Met l yJ7_fill_53178 (jk yJ7_fill_53178 cJ7_fill_53178 4 none) ({ frames := 0, cells := 0, slots := 0, locals := 0 }) (va_Pc [.ref p1.toNat, .int (iI p2)] (xP (dC, dI) (xG L cid K N v) (xT cid) tW sK sV sz)) (va_Qv (fun (u : (Int → Int → Int)) => (xI L K N u) ∧ (fr K [(33, (-1))] u v)) (fun u t => va_P (dC, dI) vwCl (xG L cid K N u) t.heap ∧ va_K (dC, dI) vwCl (xT cid) t ∧ va_D (va_A (xG L cid K N v) sz) (xG L cid K N u)) (va_A (xG L cid K N v) sz)) 0 0 (va_A (xG L cid K N v) sz) := by
  refine Met.ofW (cc := cJ7_fill_53178) (maxL := 4) (ret := none) (by decide) rfl ?_
  intro p e s m args below meth c s₁ B hml hv
  obtain ⟨rfl, ⟨hsz, hP, hK, hD0⟩, hX⟩ := hv
  have hx := B.exec
  have hb := B.bytes
  have hr := B.returns
  have hts := atoms_spec (ws := (jk yJ7_fill_53178 cJ7_fill_53178 4 none)) B.pre
  have hj : ∀ w ∈ jw, w.before ([.ref p1.toNat, .int (iI p2)] : List Value).toArray s = true := fun w h => hts w (jm h)
  have hown : s.vm.findClass RJ7 = some m.cls := findClass_of_methodNamed B.named
  subst hsz
  have hD := hD0.self (sz := s.heap.size)
  generalize hAe : (va_A (xG L cid K N v) s.heap.size) = A at hD hX ⊢
  have hA : ∀ q : Nat, s.heap.size ≤ q → A q := fun q h => by rw [← hAe]; exact Or.inr h
  have hS : va_S A s.heap s.heap [] := va_S.rf
  have hXa := hX
  have hP : va_P (dC, dI) vwCl (xG L cid K N v) s.heap := hP
  have hl := lv_entry ([.ref p1.toNat, .int (iI p2)]) (n := 4) (Nat.le_of_ble_eq_true rfl)
  rw [lg_entry_eq]
  generalize (lg_sl ([.ref p1.toNat, .int (iI p2)]) ++ List.replicate (4 - (lg_sl ([.ref p1.toNat, .int (iI p2)])).length) Slot.unset).toArray = ls at hl ⊢
  have hl : lv_has ls 4 [(0, .ref p1.toNat), (1, .int (iI p2))] := hl
  generalize hQ : MQ below (va_Qv (fun (u : (Int → Int → Int)) => (xI L K N u) ∧ (fr K [(33, (-1))] u v)) (fun u t => va_P (dC, dI) vwCl (xG L cid K N u) t.heap ∧ va_K (dC, dI) vwCl (xT cid) t ∧ va_D A (xG L cid K N u)) A) ([.ref p1.toNat, .int (iI p2)] : List Value).toArray s 0 0 A = Q
  suffices ST : ∀ (H : Heap) (locs : List Loc), va_P (dC, dI) vwCl (xG L cid K N v) H → va_S A s.heap H locs → W p l e ({ frames := 0, cells := 0, slots := 0, locals := 0 }) s m ([.ref p1.toNat, .int (iI p2)] : List Value).toArray below meth c H locs 0 0 Q (F0 m 0 ls []) from ST _ _ hP hS
  clear hP hS
  intro H locs hP hS
  have h_1 : N p1 = 9 := xn_33 hI q1
  refine lv_iconst (v := iI 0) hx hb dJ7_fill_53178_0 rfl ?_
  refine lv_istore_n (i := 2) (lv' := [(2, .int (iI 0)), (0, .ref p1.toNat), (1, .int (iI p2))]) hx hb dJ7_fill_53178_1 rfl hl (by decide) rfl (fun ls hl => ?_)
  refine lv_aload_n hx hb dJ7_fill_53178_2 rfl (lv_at hl 1 rfl) ?_
  refine lx_33 (y := 9) hx hb hK hP q1 (by omega) (by omega) dJ7_fill_53178_3 ?_
  refine lv_istore_n (i := 3) (lv' := [(3, .int (iI 9)), (2, .int (iI 0)), (0, .ref p1.toNat), (1, .int (iI p2))]) hx hb dJ7_fill_53178_4 rfl hl (by decide) rfl (fun ls hl => ?_)
  have L5 : ∀ (n5 : Nat) (a2_5 : Int) (vc5 : Int → Int → Int) (H : Heap) (locs : List Loc) (ls : Array Slot), (0 ≤ a2_5 ∧ a2_5 ≤ 2147483647) → (0 < (n5 : Int) ∧ 9 - a2_5 < (n5 : Int)) → fr K [(33, (-1))] vc5 v → xI L K N vc5 → va_P (dC, dI) vwCl (xG L cid K N vc5) H → va_D A (xG L cid K N vc5) → va_S A s.heap H locs → lv_has ls 4 [(3, .int (iI 9)), (2, .int (iI a2_5)), (0, .ref p1.toNat), (1, .int (iI p2))] → W p l e ({ frames := 0, cells := 0, slots := 0, locals := 0 }) s m ([.ref p1.toNat, .int (iI p2)] : List Value).toArray below meth c H locs 0 0 Q (F0 m 5 ls []) := by
    intro n5
    induction n5 with
    | zero =>
      intro a2_5 vc5 H locs ls h_2 hm5 f_3 I_4 hP hD hS hl
      exfalso; omega
    | succ n5 ih5 =>
      intro a2_5 vc5 H locs ls h_5 hm5 f_6 I_7 hP hD hS hl
      refine lv_iload_n hx hb dJ7_fill_53178_5 rfl (lv_at hl 1 rfl) ?_
      refine lv_iload_n hx hb dJ7_fill_53178_6 rfl (lv_at hl 0 rfl) ?_
      refine xr_icmp_ge (tgt := 20) hx hb dJ7_fill_53178_7 (by decide) (by omega) (by omega) (fun h_8 => ?_) (fun h_8 => ?_)
      · rw [← hQ]
        exact W.vret hx hb hr (fun t ht hW => ⟨⟨vc5, rfl, ⟨I_7, (fr_tr f_6 rfl fr_rf)⟩, by rw [ht]; exact hP, va_K.moved hW.alike hK, hD⟩, hS.F ht⟩) hS.2.2 dJ7_fill_53178_20
      · refine lv_aload_n hx hb dJ7_fill_53178_10 rfl (lv_at hl 2 rfl) ?_
        refine lv_iload_n hx hb dJ7_fill_53178_11 rfl (lv_at hl 1 rfl) ?_
        refine lv_iload_n hx hb dJ7_fill_53178_12 rfl (lv_at hl 3 rfl) ?_
        refine sx_33 (y := p2) hx hb hK hP hD hS I_7 q1 (by omega) (by omega) (by omega) ⟨by omega, by omega⟩ dJ7_fill_53178_13 (fun v_9 H locs f_10 e_11 o_12 I_13 hP hD hS => ?_)
        refine lv_iinc (v := iI (a2_5 + 1)) (lv' := [(2, .int (iI (a2_5 + 1))), (3, .int (iI 9)), (0, .ref p1.toNat), (1, .int (iI p2))]) hx hb dJ7_fill_53178_14 hl (k := 1) rfl (iI_add _ _) (by decide) rfl (fun ls hl => ?_)
        refine lv_goto (tgt := 5) hx hb dJ7_fill_53178_17 (by decide) ?_
        exact ih5 (a2_5 + 1) v_9 H locs ls (by omega) (by omega) (fr_tr f_10 rfl (fr_tr f_6 rfl fr_rf)) I_13 hP hD hS (lv_sub hl [1, 0, 2, 3] rfl)
  exact L5 (((9 - 0 : Int)).toNat + 1) 0 v H locs ls (by omega) (by omega) fr_rf hI hP hD hS hl
set_option maxHeartbeats 2000000 in
set_option maxRecDepth 100000 in
theorem sX7_isLetter (l : Launch) (dC : Nat → ClassId) (dI : Nat → Nat → Nat) (sz : Nat) (p1 : Int) (q1 : rg p1) : Met l yX7_isLetter (jk yX7_isLetter cX7_isLetter 1 (some .boolean)) ({ frames := 0, cells := 0, slots := 0, locals := 0 }) (va_Pc [.int (iI p1)] (fun U => U.heap.size = sz)) (va_Qi (fun (r : Int32) (_ : Unit) => ∃ z : Int, r = iI z ∧ (0 ≤ z ∧ z ≤ 1)) (fun _ _ => True) (va_A [] sz)) 0 0 (va_A [] sz) := by
  refine Met.ofW (cc := cX7_isLetter) (maxL := 1) (ret := (some .boolean)) (by decide) rfl ?_
  intro p e s m args below meth c s₁ B hml hv
  obtain ⟨rfl, hsz⟩ := hv
  have hx := B.exec
  have hb := B.bytes
  have hr := B.returns
  have hts := atoms_spec (ws := (jk yX7_isLetter cX7_isLetter 1 (some .boolean))) B.pre
  have hj : ∀ w ∈ jw, w.before ([.int (iI p1)] : List Value).toArray s = true := fun w h => hts w (jm h)
  have hown : s.vm.findClass RX7 = some m.cls := findClass_of_methodNamed B.named
  subst hsz
  have hP : va_P (dC, dI) vwCl [] s.heap := fun k q h => by simp at h
  generalize hAe : (va_A [] s.heap.size) = A
  have hA : ∀ q : Nat, s.heap.size ≤ q → A q := fun q h => by rw [← hAe]; exact Or.inr h
  have hS : va_S A s.heap s.heap [] := va_S.rf
  have hl := lv_entry ([.int (iI p1)]) (n := 1) (Nat.le_of_ble_eq_true rfl)
  rw [lg_entry_eq]
  generalize (lg_sl ([.int (iI p1)]) ++ List.replicate (1 - (lg_sl ([.int (iI p1)])).length) Slot.unset).toArray = ls at hl ⊢
  have hl : lv_has ls 1 [(0, .int (iI p1))] := hl
  generalize hQ : MQ below (va_Qi (fun (r : Int32) (_ : Unit) => ∃ z : Int, r = iI z ∧ (0 ≤ z ∧ z ≤ 1)) (fun _ _ => True) A) ([.int (iI p1)] : List Value).toArray s 0 0 A = Q
  suffices ST : ∀ (H : Heap) (locs : List Loc), va_P (dC, dI) vwCl [] H → va_S A s.heap H locs → W p l e ({ frames := 0, cells := 0, slots := 0, locals := 0 }) s m ([.int (iI p1)] : List Value).toArray below meth c H locs 0 0 Q (F0 m 0 ls []) from ST _ _ hP hS
  clear hP hS
  intro H locs hP hS
  refine lv_iload_n hx hb dX7_isLetter_0 rfl (lv_at hl 0 rfl) ?_
  refine lv_bipush (v := iI 97) hx hb dX7_isLetter_1 rfl ?_
  refine xr_icmp_lt (tgt := 16) hx hb dX7_isLetter_3 (by decide) (by omega) (by omega) (fun h_1 => ?_) (fun h_1 => ?_)
  · refine lv_iconst (v := iI 0) hx hb dX7_isLetter_16 rfl ?_
    rw [← hQ]
    exact W.zret (v := iI 0) (ty := .boolean) hx hb hr (nb_bool (by omega) (by omega)) (fun t ht hW => ⟨⟨iI 0, (), rfl, ⟨0, rfl, by omega⟩, trivial⟩, hS.F ht⟩) hS.2.2 dX7_isLetter_17
  · refine lv_iload_n hx hb dX7_isLetter_6 rfl (lv_at hl 0 rfl) ?_
    refine lv_bipush (v := iI 122) hx hb dX7_isLetter_7 rfl ?_
    refine xr_icmp_gt (tgt := 16) hx hb dX7_isLetter_9 (by decide) (by omega) (by omega) (fun h_2 => ?_) (fun h_2 => ?_)
    · refine lv_iconst (v := iI 0) hx hb dX7_isLetter_16 rfl ?_
      rw [← hQ]
      exact W.zret (v := iI 0) (ty := .boolean) hx hb hr (nb_bool (by omega) (by omega)) (fun t ht hW => ⟨⟨iI 0, (), rfl, ⟨0, rfl, by omega⟩, trivial⟩, hS.F ht⟩) hS.2.2 dX7_isLetter_17
    · refine lv_iconst (v := iI 1) hx hb dX7_isLetter_12 rfl ?_
      refine lv_goto (tgt := 17) hx hb dX7_isLetter_13 (by decide) ?_
      rw [← hQ]
      exact W.zret (v := iI 1) (ty := .boolean) hx hb hr (nb_bool (by omega) (by omega)) (fun t ht hW => ⟨⟨iI 1, (), rfl, ⟨1, rfl, by omega⟩, trivial⟩, hS.F ht⟩) hS.2.2 dX7_isLetter_17
set_option maxHeartbeats 2000000 in
set_option maxRecDepth 100000 in
theorem sX7_isSign (l : Launch) (dC : Nat → ClassId) (dI : Nat → Nat → Nat) (sz : Nat) (L : List Nat) (cid : Nat → ClassId) (K : Int → Nat) (N : Int → Int) (tW : Nat) (sK sV : Nat → Nat) (v : Int → Int → Int) (p1 : Int) (hI : xI L K N v) (q1 : rg p1) : Met l yX7_isSign (jk yX7_isSign cX7_isSign 1 (some .boolean)) ({ frames := 4, cells := 0, slots := 0, locals := 106 }) (va_Pc [.int (iI p1)] (xP (dC, dI) (xG L cid K N v) (xT cid) tW sK sV sz)) (va_Qi (fun (r : Int32) (_ : Unit) => ∃ z : Int, r = iI z ∧ (0 ≤ z ∧ z ≤ 1)) (fun _ _ => True) (va_A [] sz)) 0 0 (va_A [] sz) := by
  refine Met.ofW (cc := cX7_isSign) (maxL := 1) (ret := (some .boolean)) (by decide) rfl ?_
  intro p e s m args below meth c s₁ B hml hv
  obtain ⟨rfl, ⟨hsz, hP, hK, hD0⟩, hX⟩ := hv
  have hx := B.exec
  have hb := B.bytes
  have hr := B.returns
  have hts := atoms_spec (ws := (jk yX7_isSign cX7_isSign 1 (some .boolean))) B.pre
  have hj : ∀ w ∈ jw, w.before ([.int (iI p1)] : List Value).toArray s = true := fun w h => hts w (jm h)
  have hown : s.vm.findClass RX7 = some m.cls := findClass_of_methodNamed B.named
  subst hsz
  have hDw := hD0.self (sz := s.heap.size)
  have hAA : ∀ q : Nat, s.heap.size ≤ q → va_A (xG L cid K N v) s.heap.size q := fun q h => Or.inr h
  have hAw : ∀ q, va_A [] s.heap.size q → va_A (xG L cid K N v) s.heap.size q := ja_nil va_S.rf hAA
  generalize hAe : (va_A [] s.heap.size) = A at hAw ⊢
  have hA : ∀ q : Nat, s.heap.size ≤ q → A q := fun q h => by rw [← hAe]; exact Or.inr h
  have hS : va_S A s.heap s.heap [] := va_S.rf
  have hXa := hX.nar hAw
  have hP : va_P (dC, dI) vwCl (xG L cid K N v) s.heap := hP
  have hl := lv_entry ([.int (iI p1)]) (n := 1) (Nat.le_of_ble_eq_true rfl)
  rw [lg_entry_eq]
  generalize (lg_sl ([.int (iI p1)]) ++ List.replicate (1 - (lg_sl ([.int (iI p1)])).length) Slot.unset).toArray = ls at hl ⊢
  have hl : lv_has ls 1 [(0, .int (iI p1))] := hl
  generalize hQ : MQ below (va_Qi (fun (r : Int32) (_ : Unit) => ∃ z : Int, r = iI z ∧ (0 ≤ z ∧ z ≤ 1)) (fun _ _ => True) A) ([.int (iI p1)] : List Value).toArray s 0 0 A = Q
  suffices ST : ∀ (H : Heap) (locs : List Loc), va_P (dC, dI) vwCl (xG L cid K N v) H → va_S A s.heap H locs → W p l e ({ frames := 4, cells := 0, slots := 0, locals := 106 }) s m ([.int (iI p1)] : List Value).toArray below meth c H locs 0 0 Q (F0 m 0 ls []) from ST _ _ hP hS
  clear hP hS
  intro H locs hP hS
  refine lv_iload_n hx hb dX7_isSign_0 rfl (lv_at hl 0 rfl) ?_
  refine xr_if_le (tgt := 18) hx hb dX7_isSign_1 (by decide) (by omega) (fun h_1 => ?_) (fun h_1 => ?_)
  · refine lv_iconst (v := iI 0) hx hb dX7_isSign_18 rfl ?_
    rw [← hQ]
    exact W.zret (v := iI 0) (ty := .boolean) hx hb hr (nb_bool (by omega) (by omega)) (fun t ht hW => ⟨⟨iI 0, (), rfl, ⟨0, rfl, by omega⟩, trivial⟩, hS.F ht⟩) hS.2.2 dX7_isSign_19
  · refine va_ldcS hx hb hown hXa.2.2.2.1.1 dX7_isSign_4 ?_
    refine lv_iload_n hx hb dX7_isSign_6 rfl (lv_at hl 0 rfl) ?_
    refine xr_i2c hx hb dX7_isSign_7 (fun z_2 h_3 => ?_)
    have h_4 : sx_n 0 = 13 := rfl
    refine jc_i (va_runV (As := [.int (iI z_2)]) (rest := []) ⟨hx, hb, hml, hown, hts⟩ (sJ0_indexOf_0f7a4 l dC dI _ sK sV 0 z_2 (by decide) (by omega)) (cwV 1 hts (jgoodV m_785 m_786 m_787 m_754 m_788) rfl rfl rfl (by decide +kernel) ⟨(Nat.le_of_ble_eq_true rfl), (Nat.le_of_ble_eq_true rfl)⟩) ⟨xS_blind, vk_recv hXa.2.2.1 (by decide) hS, fun U hU hW => ⟨rfl, xS_of hU hW hXa.2.2 hS hA⟩⟩ rfl rfl hl.1 rfl (lv_room (Nat.le_of_ble_eq_true rfl)) dX7_isSign_8 ⟨(Nat.le_of_ble_eq_true rfl), (Nat.le_of_ble_eq_true rfl)⟩) hP hS hA (fun r_5 H locs w_6 hP hS => ?_)
    obtain ⟨z_7, rfl, h_8⟩ := w_6
    refine xr_if_lt (tgt := 18) hx hb dX7_isSign_11 (by decide) (by omega) (fun h_9 => ?_) (fun h_9 => ?_)
    · refine lv_iconst (v := iI 0) hx hb dX7_isSign_18 rfl ?_
      rw [← hQ]
      exact W.zret (v := iI 0) (ty := .boolean) hx hb hr (nb_bool (by omega) (by omega)) (fun t ht hW => ⟨⟨iI 0, (), rfl, ⟨0, rfl, by omega⟩, trivial⟩, hS.F ht⟩) hS.2.2 dX7_isSign_19
    · refine lv_iconst (v := iI 1) hx hb dX7_isSign_14 rfl ?_
      refine lv_goto (tgt := 19) hx hb dX7_isSign_15 (by decide) ?_
      rw [← hQ]
      exact W.zret (v := iI 1) (ty := .boolean) hx hb hr (nb_bool (by omega) (by omega)) (fun t ht hW => ⟨⟨iI 1, (), rfl, ⟨1, rfl, by omega⟩, trivial⟩, hS.F ht⟩) hS.2.2 dX7_isSign_19
set_option maxHeartbeats 2000000 in
set_option maxRecDepth 100000 in
theorem sX7_kindAt (l : Launch) (dC : Nat → ClassId) (dI : Nat → Nat → Nat) (sz : Nat) (L : List Nat) (cid : Nat → ClassId) (K : Int → Nat) (N : Int → Int) (tW : Nat) (sK sV : Nat → Nat) (v : Int → Int → Int) (p0 : Int) (p1 : Int) (hI : xI L K N v) (q0 : ok L K p0 7) (q1 : rg p1) : Met l yX7_kindAt (jk yX7_kindAt cX7_kindAt 3 (some .int)) ({ frames := 5, cells := 0, slots := 0, locals := 126 }) (va_Pc [.ref p0.toNat, .int (iI p1)] (xP (dC, dI) (xG L cid K N v) (xT cid) tW sK sV sz)) (va_Qi (fun (r : Int32) (_ : Unit) => ∃ z : Int, r = iI z ∧ (rg z)) (fun _ _ => True) (va_A [] sz)) 0 0 (va_A [] sz) := by
  refine Met.ofW (cc := cX7_kindAt) (maxL := 3) (ret := (some .int)) (by decide) rfl ?_
  intro p e s m args below meth c s₁ B hml hv
  obtain ⟨rfl, ⟨hsz, hP, hK, hD0⟩, hX⟩ := hv
  have hx := B.exec
  have hb := B.bytes
  have hr := B.returns
  have hts := atoms_spec (ws := (jk yX7_kindAt cX7_kindAt 3 (some .int))) B.pre
  have hj : ∀ w ∈ jw, w.before ([.ref p0.toNat, .int (iI p1)] : List Value).toArray s = true := fun w h => hts w (jm h)
  have hown : s.vm.findClass RX7 = some m.cls := findClass_of_methodNamed B.named
  subst hsz
  have hDw := hD0.self (sz := s.heap.size)
  have hAA : ∀ q : Nat, s.heap.size ≤ q → va_A (xG L cid K N v) s.heap.size q := fun q h => Or.inr h
  have hAw : ∀ q, va_A [] s.heap.size q → va_A (xG L cid K N v) s.heap.size q := ja_nil va_S.rf hAA
  generalize hAe : (va_A [] s.heap.size) = A at hAw ⊢
  have hA : ∀ q : Nat, s.heap.size ≤ q → A q := fun q h => by rw [← hAe]; exact Or.inr h
  have hS : va_S A s.heap s.heap [] := va_S.rf
  have hXa := hX.nar hAw
  have hP : va_P (dC, dI) vwCl (xG L cid K N v) s.heap := hP
  have hl := lv_entry ([.ref p0.toNat, .int (iI p1)]) (n := 3) (Nat.le_of_ble_eq_true rfl)
  rw [lg_entry_eq]
  generalize (lg_sl ([.ref p0.toNat, .int (iI p1)]) ++ List.replicate (3 - (lg_sl ([.ref p0.toNat, .int (iI p1)])).length) Slot.unset).toArray = ls at hl ⊢
  have hl : lv_has ls 3 [(0, .ref p0.toNat), (1, .int (iI p1))] := hl
  generalize hQ : MQ below (va_Qi (fun (r : Int32) (_ : Unit) => ∃ z : Int, r = iI z ∧ (rg z)) (fun _ _ => True) A) ([.ref p0.toNat, .int (iI p1)] : List Value).toArray s 0 0 A = Q
  suffices ST : ∀ (H : Heap) (locs : List Loc), va_P (dC, dI) vwCl (xG L cid K N v) H → va_S A s.heap H locs → W p l e ({ frames := 5, cells := 0, slots := 0, locals := 126 }) s m ([.ref p0.toNat, .int (iI p1)] : List Value).toArray below meth c H locs 0 0 Q (F0 m 0 ls []) from ST _ _ hP hS
  clear hP hS
  intro H locs hP hS
  refine lv_aload_n hx hb dX7_kindAt_0 rfl (lv_at hl 0 rfl) ?_
  refine lv_iload_n hx hb dX7_kindAt_1 rfl (lv_at hl 1 rfl) ?_
  refine jc_i (va_runV (As := [.int (iI p1)]) (rest := []) ⟨hx, hb, hml, hown, hts⟩ (sX7_byteAt l dC dI _ L cid K N tW sK sV v p0 p1 hI q0 (by omega)) (cwV 1 hts (jgoodV m_728 m_729 m_730 m_677 m_731) rfl rfl rfl (by decide +kernel) ⟨(Nat.le_of_ble_eq_true rfl), (Nat.le_of_ble_eq_true rfl)⟩) ⟨xP_blind, xrecv hK hP q0 rfl rfl, fun U hU hW => ⟨rfl, xP_of hU hW hP hK hDw hX hS hAw hAA⟩⟩ rfl rfl hl.1 rfl (lv_room (Nat.le_of_ble_eq_true rfl)) dX7_kindAt_2 ⟨(Nat.le_of_ble_eq_true rfl), (Nat.le_of_ble_eq_true rfl)⟩) hP hS hA (fun r_1 H locs w_2 hP hS => ?_)
  obtain ⟨z_3, rfl, h_4⟩ := w_2
  refine lv_istore_n (i := 2) (lv' := [(2, .int (iI z_3)), (0, .ref p0.toNat), (1, .int (iI p1))]) hx hb dX7_kindAt_5 rfl hl (by decide) rfl (fun ls hl => ?_)
  refine lv_iload_n hx hb dX7_kindAt_6 rfl (lv_at hl 2 rfl) ?_
  refine lv_aload_n hx hb dX7_kindAt_7 rfl (lv_at hl 1 rfl) ?_
  have h_5 : 0 ≤ v p0 1 ∧ v p0 1 ≤ 600 := xf_7_1 hI q0
  refine gx_RX7_43 (y := v p0 1) hx hb hj hown hK hP q0 rfl dX7_kindAt_8 ?_
  refine xr_icmp_lt (tgt := 16) hx hb dX7_kindAt_11 (by decide) (by omega) (by omega) (fun h_6 => ?_) (fun h_6 => ?_)
  · refine lv_iload_n hx hb dX7_kindAt_16 rfl (lv_at hl 0 rfl) ?_
    refine jc_i (va_runS (As := [.int (iI z_3)]) (rest := []) ⟨hx, hb, hml, hown, hts⟩ (sX7_isLetter l dC dI _ z_3 (by omega)) (va_cwS 1 hts (jgoodS m_789 m_790 m_677 m_791) rfl rfl rfl (by decide +kernel) ⟨(Nat.le_of_ble_eq_true rfl), (Nat.le_of_ble_eq_true rfl)⟩) ⟨jw_blind0, fun U hU hW => ⟨rfl, congrArg Array.size hU⟩⟩ rfl rfl hl.1 rfl (lv_room (Nat.le_of_ble_eq_true rfl)) dX7_kindAt_17 ⟨(Nat.le_of_ble_eq_true rfl), (Nat.le_of_ble_eq_true rfl)⟩) hP hS hA (fun r_7 H locs w_8 hP hS => ?_)
    obtain ⟨z_9, rfl, h_10⟩ := w_8
    refine xr_if_eq (tgt := 25) hx hb dX7_kindAt_20 (by decide) (by omega) (fun h_11 => ?_) (fun h_11 => ?_)
    · refine lv_iload_n hx hb dX7_kindAt_25 rfl (lv_at hl 0 rfl) ?_
      refine jc_i (va_runS (As := [.int (iI z_3)]) (rest := []) ⟨hx, hb, hml, hown, hts⟩ (sX0_isDigit l dC dI _ z_3 (by omega)) (va_cwS 1 hts (jgoodS m_792 m_665 m_666 m_667) rfl rfl rfl (by decide +kernel) ⟨(Nat.le_of_ble_eq_true rfl), (Nat.le_of_ble_eq_true rfl)⟩) ⟨jw_blind0, fun U hU hW => ⟨rfl, congrArg Array.size hU⟩⟩ rfl rfl hl.1 rfl (lv_room (Nat.le_of_ble_eq_true rfl)) dX7_kindAt_26 ⟨(Nat.le_of_ble_eq_true rfl), (Nat.le_of_ble_eq_true rfl)⟩) hP hS hA (fun r_12 H locs w_13 hP hS => ?_)
      obtain ⟨z_14, rfl, h_15⟩ := w_13
      refine xr_if_eq (tgt := 34) hx hb dX7_kindAt_29 (by decide) (by omega) (fun h_16 => ?_) (fun h_16 => ?_)
      · refine lv_iload_n hx hb dX7_kindAt_34 rfl (lv_at hl 0 rfl) ?_
        refine jc_i (va_runS (As := [.int (iI z_3)]) (rest := []) ⟨hx, hb, hml, hown, hts⟩ (sX7_isSign l dC dI _ L cid K N tW sK sV v z_3 hI (by omega)) (va_cwS 1 hts (jgoodS m_793 m_794 m_677 m_795) rfl rfl rfl (by decide +kernel) ⟨(Nat.le_of_ble_eq_true rfl), (Nat.le_of_ble_eq_true rfl)⟩) ⟨xP_blind, fun U hU hW => ⟨rfl, xP_of hU hW hP hK hDw hX hS hAw hAA⟩⟩ rfl rfl hl.1 rfl (lv_room (Nat.le_of_ble_eq_true rfl)) dX7_kindAt_35 ⟨(Nat.le_of_ble_eq_true rfl), (Nat.le_of_ble_eq_true rfl)⟩) hP hS hA (fun r_17 H locs w_18 hP hS => ?_)
        obtain ⟨z_19, rfl, h_20⟩ := w_18
        refine xr_if_eq (tgt := 45) hx hb dX7_kindAt_38 (by decide) (by omega) (fun h_21 => ?_) (fun h_21 => ?_)
        · refine lv_iconst (v := iI 3) hx hb dX7_kindAt_45 rfl ?_
          rw [← hQ]
          exact W.iret (v := iI 3) hx hb hr (fun t ht hW => ⟨⟨iI 3, (), rfl, ⟨3, rfl, by omega⟩, trivial⟩, hS.F ht⟩) hS.2.2 dX7_kindAt_46
        · refine lv_iload_n hx hb dX7_kindAt_41 rfl (lv_at hl 0 rfl) ?_
          refine lv_goto (tgt := 46) hx hb dX7_kindAt_42 (by decide) ?_
          rw [← hQ]
          exact W.iret (v := iI z_3) hx hb hr (fun t ht hW => ⟨⟨iI z_3, (), rfl, ⟨z_3, rfl, by omega⟩, trivial⟩, hS.F ht⟩) hS.2.2 dX7_kindAt_46
      · refine lv_iconst (v := iI 2) hx hb dX7_kindAt_32 rfl ?_
        rw [← hQ]
        exact W.iret (v := iI 2) hx hb hr (fun t ht hW => ⟨⟨iI 2, (), rfl, ⟨2, rfl, by omega⟩, trivial⟩, hS.F ht⟩) hS.2.2 dX7_kindAt_33
    · refine lv_iconst (v := iI 1) hx hb dX7_kindAt_23 rfl ?_
      rw [← hQ]
      exact W.iret (v := iI 1) hx hb hr (fun t ht hW => ⟨⟨iI 1, (), rfl, ⟨1, rfl, by omega⟩, trivial⟩, hS.F ht⟩) hS.2.2 dX7_kindAt_24
  · refine lv_iconst (v := iI 0) hx hb dX7_kindAt_14 rfl ?_
    rw [← hQ]
    exact W.iret (v := iI 0) hx hb hr (fun t ht hW => ⟨⟨iI 0, (), rfl, ⟨0, rfl, by omega⟩, trivial⟩, hS.F ht⟩) hS.2.2 dX7_kindAt_15
