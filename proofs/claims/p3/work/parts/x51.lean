set_option maxHeartbeats 2000000 in
set_option maxRecDepth 100000 in
theorem sX12_volume (l : Launch) (dC : Nat → ClassId) (dI : Nat → Nat → Nat) (sz : Nat) (L : List Nat) (cid : Nat → ClassId) (K : Int → Nat) (N : Int → Int) (tW : Nat) (sK sV : Nat → Nat) (v : Int → Int → Int) (p0 : Int) (p1 : Int) (hI : xI L K N v) (q0 : ok L K p0 12) (q1 : rg p1) : Met l yX12_volume (jk yX12_volume cX12_volume 3 (some .int)) ({ frames := 3, cells := 0, slots := 0, locals := 63 }) (va_Pc [.ref p0.toNat, .int (iI p1)] (xP (dC, dI) (xG L cid K N v) (xT cid) tW sK sV sz)) (va_Qi (fun (r : Int32) (_ : Unit) => ∃ z : Int, r = iI z ∧ (rg z)) (fun _ _ => True) (va_A [] sz)) 0 0 (va_A [] sz) := by
  refine Met.ofW (cc := cX12_volume) (maxL := 3) (ret := (some .int)) (by decide) rfl ?_
  intro p e s m args below meth c s₁ B hml hv
  obtain ⟨rfl, ⟨hsz, hP, hK, hD0⟩, hX⟩ := hv
  have hx := B.exec
  have hb := B.bytes
  have hr := B.returns
  have hts := atoms_spec (ws := (jk yX12_volume cX12_volume 3 (some .int))) B.pre
  have hj : ∀ w ∈ jw, w.before ([.ref p0.toNat, .int (iI p1)] : List Value).toArray s = true := fun w h => hts w (jm h)
  have hown : s.vm.findClass RX12 = some m.cls := findClass_of_methodNamed B.named
  subst hsz
  have hDw := hD0.self (sz := s.heap.size)
  have hAA : ∀ q : Nat, s.heap.size ≤ q → va_A (xG L cid K N v) s.heap.size q := fun q h => Or.inr h
  have hAw : ∀ q, va_A [] s.heap.size q → va_A (xG L cid K N v) s.heap.size q := ja_nil va_S.rf hAA
  generalize hAe : (va_A [] s.heap.size) = A at hAw ⊢
  have hA : ∀ q : Nat, s.heap.size ≤ q → A q := fun q h => by rw [← hAe]; exact Or.inr h
  have hS : va_S A s.heap s.heap [] := va_S.rf
  have hXa := hX.nar hAw
  have hP : va_P (dC, dI) vwCl (xG L cid K N v) s.heap := hP
  have hl := lv_entry ([.ref p0.toNat, .int (iI p1)]) (n := 3) (Nat.le_of_ble_eq_true rfl)
  rw [lg_entry_eq]
  generalize (lg_sl ([.ref p0.toNat, .int (iI p1)]) ++ List.replicate (3 - (lg_sl ([.ref p0.toNat, .int (iI p1)])).length) Slot.unset).toArray = ls at hl ⊢
  have hl : lv_has ls 3 [(0, .ref p0.toNat), (1, .int (iI p1))] := hl
  generalize hQ : MQ below (va_Qi (fun (r : Int32) (_ : Unit) => ∃ z : Int, r = iI z ∧ (rg z)) (fun _ _ => True) A) ([.ref p0.toNat, .int (iI p1)] : List Value).toArray s 0 0 A = Q
  suffices ST : ∀ (H : Heap) (locs : List Loc), va_P (dC, dI) vwCl (xG L cid K N v) H → va_S A s.heap H locs → W p l e ({ frames := 3, cells := 0, slots := 0, locals := 63 }) s m ([.ref p0.toNat, .int (iI p1)] : List Value).toArray below meth c H locs 0 0 Q (F0 m 0 ls []) from ST _ _ hP hS
  clear hP hS
  intro H locs hP hS
  refine lv_aload_n hx hb dX12_volume_0 rfl (lv_at hl 0 rfl) ?_
  refine lv_iload_n hx hb dX12_volume_1 rfl (lv_at hl 1 rfl) ?_
  refine jc_q (va_runV (As := [.int (iI p1)]) (rest := []) ⟨hx, hb, hml, hown, hts⟩ (sX12_entryAt l dC dI _ L cid K N tW sK sV v p0 p1 hI q0 (by omega)) (cwV 1 hts (jgoodV m_870 m_871 m_872 m_873 m_874) rfl rfl rfl (by decide +kernel) ⟨(Nat.le_of_ble_eq_true rfl), (Nat.le_of_ble_eq_true rfl)⟩) ⟨xP_blind, xrecv hK hP q0 rfl rfl, fun U hU hW => ⟨rfl, xP_of hU hW hP hK hDw hX hS hAw hAA⟩⟩ rfl rfl hl.1 rfl (lv_room (Nat.le_of_ble_eq_true rfl)) dX12_volume_2 ⟨(Nat.le_of_ble_eq_true rfl), (Nat.le_of_ble_eq_true rfl)⟩) hP hS hA (fun r_1 H locs w_2 hP hS => ?_)
  obtain ⟨z_3, rfl, h_4⟩ := w_2
  refine jt_q (rv z_3) rfl ?_
  refine xq_astore_n (i := 2) (lv' := [(2, rv z_3), (0, .ref p0.toNat), (1, .int (iI p1))]) hx hb dX12_volume_5 rfl hl (by decide) rfl (fun ls hl => ?_)
  refine xq_aload_n hx hb dX12_volume_6 rfl (lv_at hl 0 rfl) ?_
  refine xq_ifnonnull (tgt := 14) hx hb dX12_volume_7 (by decide) (fun h_5 => ?_) (fun h_5 => ?_)
  · have h_6 : ok L K z_3 0 := h_4.resolve_left (by omega)
    refine lv_aload_n hx hb dX12_volume_14 rfl (lv_at hl 1 rfl) ?_
    refine xq_aload_n hx hb dX12_volume_15 rfl (lv_at hl 0 rfl) ?_
    refine jt_q (.ref z_3.toNat) (rv_ref (h_6).1) ?_
    refine jc_i (va_runV (As := [.ref z_3.toNat]) (rest := []) ⟨hx, hb, hml, hown, hts⟩ (sX12_standing l dC dI _ L cid K N tW sK sV v p0 z_3 hI q0 h_6) (cwV 1 hts (jgoodV m_1039 m_1040 m_1041 m_873 m_1042) rfl rfl rfl (by decide +kernel) ⟨(Nat.le_of_ble_eq_true rfl), (Nat.le_of_ble_eq_true rfl)⟩) ⟨xP_blind, xrecv hK hP q0 rfl rfl, fun U hU hW => ⟨rfl, xP_of hU hW hP hK hDw hX hS hAw hAA⟩⟩ rfl rfl hl.1 rfl (lv_room (Nat.le_of_ble_eq_true rfl)) dX12_volume_16 ⟨(Nat.le_of_ble_eq_true rfl), (Nat.le_of_ble_eq_true rfl)⟩) hP hS hA (fun r_7 H locs w_8 hP hS => ?_)
    obtain ⟨z_9, rfl, h_10⟩ := w_8
    rw [← hQ]
    exact W.iret (v := iI z_9) hx hb hr (fun t ht hW => ⟨⟨iI z_9, (), rfl, ⟨z_9, rfl, by omega⟩, trivial⟩, hS.F ht⟩) hS.2.2 dX12_volume_19
  · refine lv_iconst (v := iI (-1)) hx hb dX12_volume_10 rfl ?_
    refine lv_goto (tgt := 19) hx hb dX12_volume_11 (by decide) ?_
    rw [← hQ]
    exact W.iret (v := iI (-1)) hx hb hr (fun t ht hW => ⟨⟨iI (-1), (), rfl, ⟨(-1), rfl, by omega⟩, trivial⟩, hS.F ht⟩) hS.2.2 dX12_volume_19
set_option maxHeartbeats 2000000 in
set_option maxRecDepth 100000 in
theorem sX12_arrange (l : Launch) (dC : Nat → ClassId) (dI : Nat → Nat → Nat) (sz : Nat) (L : List Nat) (cid : Nat → ClassId) (K : Int → Nat) (N : Int → Int) (tW : Nat) (sK sV : Nat → Nat) (v : Int → Int → Int) (p0 : Int) (p1 : Int) (hI : xI L K N v) (q0 : ok L K p0 12) (q1 : rg p1) : Met l yX12_arrange (jk yX12_arrange cX12_arrange 4 none) ({ frames := 5, cells := 0, slots := 0, locals := 137 }) (va_Pc [.ref p0.toNat, .int (iI p1)] (xP (dC, dI) (xG L cid K N v) (xT cid) tW sK sV sz)) (va_Qv (fun (u : (Int → Int → Int)) => (xI L K N u) ∧ (fr K [(0, 5), (6, 1), (6, 2), (6, 3), (6, 4), (6, 5), (12, 9), (34, (-1)), (37, (-1))] u v)) (fun u t => va_P (dC, dI) vwCl (xG L cid K N u) t.heap ∧ va_K (dC, dI) vwCl (xT cid) t ∧ va_D (va_A (xG L cid K N v) sz) (xG L cid K N u)) (va_A (xG L cid K N v) sz)) 0 0 (va_A (xG L cid K N v) sz) := by
  refine Met.ofW (cc := cX12_arrange) (maxL := 4) (ret := none) (by decide) rfl ?_
  intro p e s m args below meth c s₁ B hml hv
  obtain ⟨rfl, ⟨hsz, hP, hK, hD0⟩, hX⟩ := hv
  have hx := B.exec
  have hb := B.bytes
  have hr := B.returns
  have hts := atoms_spec (ws := (jk yX12_arrange cX12_arrange 4 none)) B.pre
  have hj : ∀ w ∈ jw, w.before ([.ref p0.toNat, .int (iI p1)] : List Value).toArray s = true := fun w h => hts w (jm h)
  have hown : s.vm.findClass RX12 = some m.cls := findClass_of_methodNamed B.named
  subst hsz
  have hD := hD0.self (sz := s.heap.size)
  generalize hAe : (va_A (xG L cid K N v) s.heap.size) = A at hD hX ⊢
  have hA : ∀ q : Nat, s.heap.size ≤ q → A q := fun q h => by rw [← hAe]; exact Or.inr h
  have hS : va_S A s.heap s.heap [] := va_S.rf
  have hXa := hX
  have hP : va_P (dC, dI) vwCl (xG L cid K N v) s.heap := hP
  have hl := lv_entry ([.ref p0.toNat, .int (iI p1)]) (n := 4) (Nat.le_of_ble_eq_true rfl)
  rw [lg_entry_eq]
  generalize (lg_sl ([.ref p0.toNat, .int (iI p1)]) ++ List.replicate (4 - (lg_sl ([.ref p0.toNat, .int (iI p1)])).length) Slot.unset).toArray = ls at hl ⊢
  have hl : lv_has ls 4 [(0, .ref p0.toNat), (1, .int (iI p1))] := hl
  generalize hQ : MQ below (va_Qv (fun (u : (Int → Int → Int)) => (xI L K N u) ∧ (fr K [(0, 5), (6, 1), (6, 2), (6, 3), (6, 4), (6, 5), (12, 9), (34, (-1)), (37, (-1))] u v)) (fun u t => va_P (dC, dI) vwCl (xG L cid K N u) t.heap ∧ va_K (dC, dI) vwCl (xT cid) t ∧ va_D A (xG L cid K N u)) A) ([.ref p0.toNat, .int (iI p1)] : List Value).toArray s 0 0 A = Q
  suffices ST : ∀ (H : Heap) (locs : List Loc), va_P (dC, dI) vwCl (xG L cid K N v) H → va_S A s.heap H locs → W p l e ({ frames := 5, cells := 0, slots := 0, locals := 137 }) s m ([.ref p0.toNat, .int (iI p1)] : List Value).toArray below meth c H locs 0 0 Q (F0 m 0 ls []) from ST _ _ hP hS
  clear hP hS
  intro H locs hP hS
  refine lv_aload_n hx hb dX12_arrange_0 rfl (lv_at hl 0 rfl) ?_
  refine lv_iconst (v := iI 0) hx hb dX12_arrange_1 rfl ?_
  refine px_RX12_268 (y := 0) hx hb hj hown hK hP hD hS hI q0 ⟨by omega, by omega⟩ dX12_arrange_2 (fun v_1 H locs f_2 e_3 o_4 I_5 hP hD hS => ?_)
  refine lv_aload_n hx hb dX12_arrange_5 rfl (lv_at hl 0 rfl) ?_
  have h_6 : ok L K (v p0 4) 6 := xf_12_4 hI q0
  refine gx_RX12_28 (y := v p0 4) hx hb hj hown hK hP q0 ((xf_12_4 I_5 q0).1) (fr_use q0 f_2 rfl) dX12_arrange_6 ?_
  refine lv_iload_n hx hb dX12_arrange_9 rfl (lv_at hl 1 rfl) ?_
  refine lv_aload_n hx hb dX12_arrange_10 rfl (lv_at hl 0 rfl) ?_
  have h_7 : 0 ≤ v p0 0 ∧ v p0 0 ≤ 2000 := xf_12_0 hI q0
  refine gx_RX12_133 (y := v p0 0) hx hb hj hown hK hP q0 (fr_use q0 f_2 rfl) dX12_arrange_11 ?_
  refine jcg_v (va_runV (As := [.int (iI p1), .int (iI (v p0 0))]) (rest := []) ⟨hx, hb, hml, hown, hts⟩ (sX6_take l dC dI _ L cid K N tW sK sV v_1 (v p0 4) p1 (v p0 0) I_5 h_6 (by omega) (by omega)) (cwV 2 hts (jgoodV m_1003 m_1004 m_1005 m_860 m_1006) rfl rfl rfl (by decide +kernel) ⟨(Nat.le_of_ble_eq_true rfl), (Nat.le_of_ble_eq_true rfl)⟩) ⟨xP_blind, xrecv hK hP h_6 rfl rfl, fun U hU hW => ⟨rfl, xP_of hU hW hP hK hD hX hS (fun _ h => h) hA⟩⟩ rfl rfl hl.1 rfl (lv_room (Nat.le_of_ble_eq_true rfl)) dX12_arrange_14 ⟨(Nat.le_of_ble_eq_true rfl), (Nat.le_of_ble_eq_true rfl)⟩) hD hS hA (fun v_11 H locs w_9 hP hK hD hS => ?_)
  obtain ⟨I_13, f_12⟩ := w_9
  have hP : va_P (dC, dI) vwCl (xG L cid K N v_11) H := hP
  have hD : va_D A (xG L cid K N v_11) := hD
  refine lv_iconst (v := iI 0) hx hb dX12_arrange_17 rfl ?_
  refine lv_istore_n (i := 2) (lv' := [(2, .int (iI 0)), (0, .ref p0.toNat), (1, .int (iI p1))]) hx hb dX12_arrange_18 rfl hl (by decide) rfl (fun ls hl => ?_)
  have L19 : ∀ (n19 : Nat) (a2_19 : Int) (vc19 : Int → Int → Int) (H : Heap) (locs : List Loc) (ls : Array Slot), (0 ≤ a2_19 ∧ a2_19 ≤ 2147483647) → (0 < (n19 : Int) ∧ (v p0 7) - a2_19 < (n19 : Int)) → fr K [(0, 5), (12, 9), (37, (-1))] vc19 v_11 → xI L K N vc19 → va_P (dC, dI) vwCl (xG L cid K N vc19) H → va_D A (xG L cid K N vc19) → va_S A s.heap H locs → lv_has ls 4 [(2, .int (iI a2_19)), (0, .ref p0.toNat), (1, .int (iI p1))] → W p l e ({ frames := 5, cells := 0, slots := 0, locals := 137 }) s m ([.ref p0.toNat, .int (iI p1)] : List Value).toArray below meth c H locs 0 0 Q (F0 m 19 ls []) := by
    intro n19
    induction n19 with
    | zero =>
      intro a2_19 vc19 H locs ls h_14 hm19 f_15 I_16 hP hD hS hl
      exfalso; omega
    | succ n19 ih19 =>
      intro a2_19 vc19 H locs ls h_17 hm19 f_18 I_19 hP hD hS hl
      refine lv_iload_n hx hb dX12_arrange_19 rfl (lv_at hl 0 rfl) ?_
      refine lv_aload_n hx hb dX12_arrange_20 rfl (lv_at hl 1 rfl) ?_
      have h_20 : 0 ≤ v p0 7 ∧ v p0 7 ≤ 60 := xf_12_7 hI q0
      refine gx_RX12_203 (y := v p0 7) hx hb hj hown hK hP q0 (((fr_use q0 f_18 rfl)).trans (((fr_use q0 f_12 rfl)).trans (fr_use q0 f_2 rfl))) dX12_arrange_21 ?_
      refine xr_icmp_ge (tgt := 73) hx hb dX12_arrange_24 (by decide) (by omega) (by omega) (fun h_21 => ?_) (fun h_21 => ?_)
      · rw [← hQ]
        exact W.vret hx hb hr (fun t ht hW => ⟨⟨vc19, rfl, ⟨I_19, (fr_tr f_18 rfl (fr_tr f_12 rfl (fr_tr f_2 rfl fr_rf)))⟩, by rw [ht]; exact hP, va_K.moved hW.alike hK, hD⟩, hS.F ht⟩) hS.2.2 dX12_arrange_73
      · refine lv_aload_n hx hb dX12_arrange_27 rfl (lv_at hl 1 rfl) ?_
        refine lv_iload_n hx hb dX12_arrange_28 rfl (lv_at hl 0 rfl) ?_
        refine jc_q (va_runV (As := [.int (iI a2_19)]) (rest := []) ⟨hx, hb, hml, hown, hts⟩ (sX12_entryAt l dC dI _ L cid K N tW sK sV vc19 p0 a2_19 I_19 q0 (by omega)) (cwV 1 hts (jgoodV m_870 m_871 m_872 m_873 m_874) rfl rfl rfl (by decide +kernel) ⟨(Nat.le_of_ble_eq_true rfl), (Nat.le_of_ble_eq_true rfl)⟩) ⟨xP_blind, xrecv hK hP q0 rfl rfl, fun U hU hW => ⟨rfl, xP_of hU hW hP hK hD hX hS (fun _ h => h) hA⟩⟩ rfl rfl hl.1 rfl (lv_room (Nat.le_of_ble_eq_true rfl)) dX12_arrange_29 ⟨(Nat.le_of_ble_eq_true rfl), (Nat.le_of_ble_eq_true rfl)⟩) hP hS hA (fun r_22 H locs w_23 hP hS => ?_)
        obtain ⟨z_24, rfl, h_25⟩ := w_23
        refine jt_q (rv z_24) rfl ?_
        refine xq_astore_n (i := 3) (lv' := [(3, rv z_24), (2, .int (iI a2_19)), (0, .ref p0.toNat), (1, .int (iI p1))]) hx hb dX12_arrange_32 rfl hl (by decide) rfl (fun ls hl => ?_)
        refine xq_aload_n hx hb dX12_arrange_33 rfl (lv_at hl 0 rfl) ?_
        have J67 : ∀ (vc67 : Int → Int → Int) (H : Heap) (locs : List Loc) (ls : Array Slot), fr K [(0, 5), (12, 9), (37, (-1))] vc67 vc19 → xI L K N vc67 → va_P (dC, dI) vwCl (xG L cid K N vc67) H → va_D A (xG L cid K N vc67) → va_S A s.heap H locs → lv_has ls 4 [(3, rv z_24), (2, .int (iI a2_19)), (0, .ref p0.toNat), (1, .int (iI p1))] → W p l e ({ frames := 5, cells := 0, slots := 0, locals := 137 }) s m ([.ref p0.toNat, .int (iI p1)] : List Value).toArray below meth c H locs 0 0 Q (F0 m 67 ls []) := by
          intro vc67 H locs ls f_26 I_27 hP hD hS hl
          refine lv_iinc (v := iI (a2_19 + 1)) (lv' := [(2, .int (iI (a2_19 + 1))), (3, rv z_24), (0, .ref p0.toNat), (1, .int (iI p1))]) hx hb dX12_arrange_67 hl (k := 1) rfl (iI_add _ _) (by decide) rfl (fun ls hl => ?_)
          refine lv_goto (tgt := 19) hx hb dX12_arrange_70 (by decide) ?_
          exact ih19 (a2_19 + 1) vc67 H locs ls (by omega) (by omega) (fr_tr f_26 rfl (fr_tr f_18 rfl fr_rf)) I_27 hP hD hS (lv_sub hl [0, 2, 3] rfl)
        refine xq_ifnull (tgt := 67) hx hb dX12_arrange_34 (by decide) (fun h_28 => ?_) (fun h_28 => ?_)
        · exact J67 vc19 H locs ls fr_rf I_19 hP hD hS hl
        · have h_29 : ok L K z_24 0 := h_25.resolve_left (by omega)
          refine xq_aload_n hx hb dX12_arrange_37 rfl (lv_at hl 0 rfl) ?_
          refine jt_q (.ref z_24.toNat) (rv_ref (h_29).1) ?_
          have h_30 : (-2147483648) ≤ v z_24 12 ∧ v z_24 12 ≤ 2147483647 := xf_0_12 hI h_29
          refine gx_RX12_247 (y := v z_24 12) hx hb hj hown hK hP h_29 (((fr_use h_29 f_18 rfl)).trans (((fr_use h_29 f_12 rfl)).trans (fr_use h_29 f_2 rfl))) dX12_arrange_38 ?_
          refine lv_iconst (v := iI (-1)) hx hb dX12_arrange_41 rfl ?_
          refine xr_icmp_ne (tgt := 67) hx hb dX12_arrange_42 (by decide) (by omega) (by omega) (fun h_31 => ?_) (fun h_31 => ?_)
          · exact J67 vc19 H locs ls fr_rf I_19 hP hD hS hl
          · refine lv_aload_n hx hb dX12_arrange_45 rfl (lv_at hl 2 rfl) ?_
            refine xq_aload_n hx hb dX12_arrange_46 rfl (lv_at hl 0 rfl) ?_
            refine jt_q (.ref z_24.toNat) (rv_ref (h_29).1) ?_
            refine jc_i (va_runV (As := [.ref z_24.toNat]) (rest := []) ⟨hx, hb, hml, hown, hts⟩ (sX12_standing l dC dI _ L cid K N tW sK sV vc19 p0 z_24 I_19 q0 h_29) (cwV 1 hts (jgoodV m_1039 m_1040 m_1041 m_873 m_1042) rfl rfl rfl (by decide +kernel) ⟨(Nat.le_of_ble_eq_true rfl), (Nat.le_of_ble_eq_true rfl)⟩) ⟨xP_blind, xrecv hK hP q0 rfl rfl, fun U hU hW => ⟨rfl, xP_of hU hW hP hK hD hX hS (fun _ h => h) hA⟩⟩ rfl rfl hl.1 rfl (lv_room (Nat.le_of_ble_eq_true rfl)) dX12_arrange_47 ⟨(Nat.le_of_ble_eq_true rfl), (Nat.le_of_ble_eq_true rfl)⟩) hP hS hA (fun r_32 H locs w_33 hP hS => ?_)
            obtain ⟨z_34, rfl, h_35⟩ := w_33
            refine lv_iload_n hx hb dX12_arrange_50 rfl (lv_at hl 3 rfl) ?_
            refine xr_icmp_ne (tgt := 67) hx hb dX12_arrange_51 (by decide) (by omega) (by omega) (fun h_36 => ?_) (fun h_36 => ?_)
            · exact J67 vc19 H locs ls fr_rf I_19 hP hD hS hl
            · refine lv_aload_n hx hb dX12_arrange_54 rfl (lv_at hl 2 rfl) ?_
              refine gx_RX12_28 (y := v p0 4) hx hb hj hown hK hP q0 ((xf_12_4 I_19 q0).1) (((fr_use q0 f_18 rfl)).trans (((fr_use q0 f_12 rfl)).trans (fr_use q0 f_2 rfl))) dX12_arrange_55 ?_
              refine xq_aload_n hx hb dX12_arrange_58 rfl (lv_at hl 0 rfl) ?_
              refine jt_q (.ref z_24.toNat) (rv_ref (h_29).1) ?_
              refine jcg_v (va_runV (As := [.ref z_24.toNat]) (rest := []) ⟨hx, hb, hml, hown, hts⟩ (sX6_prepare l dC dI _ L cid K N tW sK sV vc19 (v p0 4) z_24 I_19 h_6 h_29) (cwV 1 hts (jgoodV m_993 m_994 m_995 m_860 m_996) rfl rfl rfl (by decide +kernel) ⟨(Nat.le_of_ble_eq_true rfl), (Nat.le_of_ble_eq_true rfl)⟩) ⟨xP_blind, xrecv hK hP h_6 rfl rfl, fun U hU hW => ⟨rfl, xP_of hU hW hP hK hD hX hS (fun _ h => h) hA⟩⟩ rfl rfl hl.1 rfl (lv_room (Nat.le_of_ble_eq_true rfl)) dX12_arrange_59 ⟨(Nat.le_of_ble_eq_true rfl), (Nat.le_of_ble_eq_true rfl)⟩) hD hS hA (fun v_40 H locs w_38 hP hK hD hS => ?_)
              obtain ⟨I_42, f_41⟩ := w_38
              have hP : va_P (dC, dI) vwCl (xG L cid K N v_40) H := hP
              have hD : va_D A (xG L cid K N v_40) := hD
              refine lv_aload_n hx hb dX12_arrange_62 rfl (lv_at hl 2 rfl) ?_
              refine xq_aload_n hx hb dX12_arrange_63 rfl (lv_at hl 0 rfl) ?_
              refine jt_q (.ref z_24.toNat) (rv_ref (h_29).1) ?_
              refine jcg_v (va_runV (As := [.ref z_24.toNat]) (rest := []) ⟨hx, hb, hml, hown, hts⟩ (sX12_insertIntoRow l dC dI _ L cid K N tW sK sV v_40 p0 z_24 I_42 q0 h_29) (cwV 1 hts (jgoodV m_1043 m_1044 m_1045 m_873 m_1046) rfl rfl rfl (by decide +kernel) ⟨(Nat.le_of_ble_eq_true rfl), (Nat.le_of_ble_eq_true rfl)⟩) ⟨xP_blind, xrecv hK hP q0 rfl rfl, fun U hU hW => ⟨rfl, xP_of hU hW hP hK hD hX hS (fun _ h => h) hA⟩⟩ rfl rfl hl.1 rfl (lv_room (Nat.le_of_ble_eq_true rfl)) dX12_arrange_64 ⟨(Nat.le_of_ble_eq_true rfl), (Nat.le_of_ble_eq_true rfl)⟩) hD hS hA (fun v_46 H locs w_44 hP hK hD hS => ?_)
              obtain ⟨I_48, f_47⟩ := w_44
              have hP : va_P (dC, dI) vwCl (xG L cid K N v_46) H := hP
              have hD : va_D A (xG L cid K N v_46) := hD
              exact J67 v_46 H locs ls (fr_tr f_47 rfl (fr_tr f_41 rfl fr_rf)) I_48 hP hD hS hl
  exact L19 ((((v p0 7) - 0 : Int)).toNat + 1) 0 v_11 H locs ls (by omega) (by omega) fr_rf I_13 hP hD hS hl
set_option maxHeartbeats 2000000 in
set_option maxRecDepth 100000 in
theorem sX12_at (l : Launch) (dC : Nat → ClassId) (dI : Nat → Nat → Nat) (sz : Nat) (L : List Nat) (cid : Nat → ClassId) (K : Int → Nat) (N : Int → Int) (tW : Nat) (sK sV : Nat → Nat) (v : Int → Int → Int) (p0 : Int) (p1 : Int) (p2 : Int) (hI : xI L K N v) (q0 : ok L K p0 12) (q1 : rg p1) (q2 : rg p2) : Met l yX12_at (jk yX12_at cX12_at 4 (some .int)) ({ frames := 6, cells := 0, slots := 0, locals := 160 }) (va_Pc [.ref p0.toNat, .int (iI p1), .int (iI p2)] (xP (dC, dI) (xG L cid K N v) (xT cid) tW sK sV sz)) (va_Qi (fun (r : Int32) (u : (Int → Int → Int)) => ∃ z : Int, r = iI z ∧ (xI L K N u) ∧ (fr K [(0, 5), (6, 1), (6, 2), (6, 3), (6, 4), (6, 5), (12, 9), (34, (-1)), (37, (-1))] u v) ∧ (rg z)) (fun u t => va_P (dC, dI) vwCl (xG L cid K N u) t.heap ∧ va_K (dC, dI) vwCl (xT cid) t ∧ va_D (va_A (xG L cid K N v) sz) (xG L cid K N u)) (va_A (xG L cid K N v) sz)) 0 0 (va_A (xG L cid K N v) sz) := by
  refine Met.ofW (cc := cX12_at) (maxL := 4) (ret := (some .int)) (by decide) rfl ?_
  intro p e s m args below meth c s₁ B hml hv
  obtain ⟨rfl, ⟨hsz, hP, hK, hD0⟩, hX⟩ := hv
  have hx := B.exec
  have hb := B.bytes
  have hr := B.returns
  have hts := atoms_spec (ws := (jk yX12_at cX12_at 4 (some .int))) B.pre
  have hj : ∀ w ∈ jw, w.before ([.ref p0.toNat, .int (iI p1), .int (iI p2)] : List Value).toArray s = true := fun w h => hts w (jm h)
  have hown : s.vm.findClass RX12 = some m.cls := findClass_of_methodNamed B.named
  subst hsz
  have hD := hD0.self (sz := s.heap.size)
  generalize hAe : (va_A (xG L cid K N v) s.heap.size) = A at hD hX ⊢
  have hA : ∀ q : Nat, s.heap.size ≤ q → A q := fun q h => by rw [← hAe]; exact Or.inr h
  have hS : va_S A s.heap s.heap [] := va_S.rf
  have hXa := hX
  have hP : va_P (dC, dI) vwCl (xG L cid K N v) s.heap := hP
  have hl := lv_entry ([.ref p0.toNat, .int (iI p1), .int (iI p2)]) (n := 4) (Nat.le_of_ble_eq_true rfl)
  rw [lg_entry_eq]
  generalize (lg_sl ([.ref p0.toNat, .int (iI p1), .int (iI p2)]) ++ List.replicate (4 - (lg_sl ([.ref p0.toNat, .int (iI p1), .int (iI p2)])).length) Slot.unset).toArray = ls at hl ⊢
  have hl : lv_has ls 4 [(0, .ref p0.toNat), (1, .int (iI p1)), (2, .int (iI p2))] := hl
  generalize hQ : MQ below (va_Qi (fun (r : Int32) (u : (Int → Int → Int)) => ∃ z : Int, r = iI z ∧ (xI L K N u) ∧ (fr K [(0, 5), (6, 1), (6, 2), (6, 3), (6, 4), (6, 5), (12, 9), (34, (-1)), (37, (-1))] u v) ∧ (rg z)) (fun u t => va_P (dC, dI) vwCl (xG L cid K N u) t.heap ∧ va_K (dC, dI) vwCl (xT cid) t ∧ va_D A (xG L cid K N u)) A) ([.ref p0.toNat, .int (iI p1), .int (iI p2)] : List Value).toArray s 0 0 A = Q
  suffices ST : ∀ (H : Heap) (locs : List Loc), va_P (dC, dI) vwCl (xG L cid K N v) H → va_S A s.heap H locs → W p l e ({ frames := 6, cells := 0, slots := 0, locals := 160 }) s m ([.ref p0.toNat, .int (iI p1), .int (iI p2)] : List Value).toArray below meth c H locs 0 0 Q (F0 m 0 ls []) from ST _ _ hP hS
  clear hP hS
  intro H locs hP hS
  refine lv_aload_n hx hb dX12_at_0 rfl (lv_at hl 0 rfl) ?_
  refine lv_iload_n hx hb dX12_at_1 rfl (lv_at hl 1 rfl) ?_
  refine jc_q (va_runV (As := [.int (iI p1)]) (rest := []) ⟨hx, hb, hml, hown, hts⟩ (sX12_volumeAt l dC dI _ L cid K N tW sK sV v p0 p1 hI q0 (by omega)) (cwV 1 hts (jgoodV m_989 m_990 m_991 m_873 m_992) rfl rfl rfl (by decide +kernel) ⟨(Nat.le_of_ble_eq_true rfl), (Nat.le_of_ble_eq_true rfl)⟩) ⟨xP_blind, xrecv hK hP q0 rfl rfl, fun U hU hW => ⟨rfl, xP_of hU hW hP hK hD hX hS (fun _ h => h) hA⟩⟩ rfl rfl hl.1 rfl (lv_room (Nat.le_of_ble_eq_true rfl)) dX12_at_2 ⟨(Nat.le_of_ble_eq_true rfl), (Nat.le_of_ble_eq_true rfl)⟩) hP hS hA (fun r_1 H locs w_2 hP hS => ?_)
  obtain ⟨z_3, rfl, h_4⟩ := w_2
  refine jt_q (rv z_3) rfl ?_
  refine xq_astore_n (i := 3) (lv' := [(3, rv z_3), (0, .ref p0.toNat), (1, .int (iI p1)), (2, .int (iI p2))]) hx hb dX12_at_5 rfl hl (by decide) rfl (fun ls hl => ?_)
  refine xq_aload_n hx hb dX12_at_6 rfl (lv_at hl 0 rfl) ?_
  refine xq_ifnull (tgt := 14) hx hb dX12_at_7 (by decide) (fun h_5 => ?_) (fun h_5 => ?_)
  · refine lv_iconst (v := iI (-1)) hx hb dX12_at_14 rfl ?_
    rw [← hQ]
    exact W.iret (v := iI (-1)) hx hb hr (fun t ht hW => ⟨⟨iI (-1), v, rfl, ⟨(-1), rfl, hI, fr_rf, by omega⟩, by rw [ht]; exact hP, va_K.moved hW.alike hK, hD⟩, hS.F ht⟩) hS.2.2 dX12_at_15
  · have h_6 : ok L K z_3 11 := h_4.resolve_left (by omega)
    refine lv_iload_n hx hb dX12_at_10 rfl (lv_at hl 3 rfl) ?_
    refine xr_if_ge (tgt := 16) hx hb dX12_at_11 (by decide) (by omega) (fun h_7 => ?_) (fun h_7 => ?_)
    · refine xq_aload_n hx hb dX12_at_16 rfl (lv_at hl 0 rfl) ?_
      refine jt_q (.ref z_3.toNat) (rv_ref (h_6).1) ?_
      have h_8 : (-2147483648) ≤ v z_3 1 ∧ v z_3 1 ≤ 2147483647 := xf_11_1 hI h_6
      refine gx_RX12_170 (y := v z_3 1) hx hb hj hown hK hP h_6 rfl dX12_at_17 ?_
      refine lv_iconst (v := iI (-1)) hx hb dX12_at_20 rfl ?_
      refine xr_icmp_eq (tgt := 44) hx hb dX12_at_21 (by decide) (by omega) (by omega) (fun h_9 => ?_) (fun h_9 => ?_)
      · refine lv_aload_n hx hb dX12_at_44 rfl (lv_at hl 1 rfl) ?_
        refine lv_iload_n hx hb dX12_at_45 rfl (lv_at hl 2 rfl) ?_
        refine jcg_v (va_runV (As := [.int (iI p1)]) (rest := []) ⟨hx, hb, hml, hown, hts⟩ (sX12_arrange l dC dI _ L cid K N tW sK sV v p0 p1 hI q0 (by omega)) (cwV 1 hts (jgoodV m_1047 m_1048 m_1049 m_873 m_1050) rfl rfl rfl (by decide +kernel) ⟨(Nat.le_of_ble_eq_true rfl), (Nat.le_of_ble_eq_true rfl)⟩) ⟨xP_blind, xrecv hK hP q0 rfl rfl, fun U hU hW => ⟨rfl, xP_of hU hW hP hK hD hX hS (fun _ h => h) hA⟩⟩ rfl rfl hl.1 rfl (lv_room (Nat.le_of_ble_eq_true rfl)) dX12_at_46 ⟨(Nat.le_of_ble_eq_true rfl), (Nat.le_of_ble_eq_true rfl)⟩) hD hS hA (fun v_13 H locs w_11 hP hK hD hS => ?_)
        obtain ⟨I_15, f_14⟩ := w_11
        have hP : va_P (dC, dI) vwCl (xG L cid K N v_13) H := hP
        have hD : va_D A (xG L cid K N v_13) := hD
        refine lv_iload_n hx hb dX12_at_49 rfl (lv_at hl 3 rfl) ?_
        refine lv_aload_n hx hb dX12_at_50 rfl (lv_at hl 1 rfl) ?_
        have h_16 : 0 ≤ v_13 p0 9 ∧ v_13 p0 9 ≤ 60 := xf_12_9 I_15 q0
        refine gx_RX12_268 (y := v_13 p0 9) hx hb hj hown hK hP q0 rfl dX12_at_51 ?_
        refine xr_icmp_ge (tgt := 75) hx hb dX12_at_54 (by decide) (by omega) (by omega) (fun h_17 => ?_) (fun h_17 => ?_)
        · refine lv_iconst (v := iI (-1)) hx hb dX12_at_75 rfl ?_
          rw [← hQ]
          exact W.iret (v := iI (-1)) hx hb hr (fun t ht hW => ⟨⟨iI (-1), v_13, rfl, ⟨(-1), rfl, I_15, (fr_tr f_14 rfl fr_rf), by omega⟩, by rw [ht]; exact hP, va_K.moved hW.alike hK, hD⟩, hS.F ht⟩) hS.2.2 dX12_at_76
        · refine lv_iload_n hx hb dX12_at_57 rfl (lv_at hl 3 rfl) ?_
          refine lv_aload_n hx hb dX12_at_58 rfl (lv_at hl 1 rfl) ?_
          have h_18 : ok L K (v p0 8) 37 := xf_12_8 hI q0
          have h_19 : N (v p0 8) = 60 := xn_37 hI h_18
          refine gx_RX12_47 (y := v p0 8) hx hb hj hown hK hP q0 ((xf_12_8 I_15 q0).1) (fr_use q0 f_14 rfl) dX12_at_59 ?_
          refine lx_37 (y := 60) hx hb hK hP h_18 (by omega) (by omega) dX12_at_62 ?_
          refine xr_icmp_ge (tgt := 75) hx hb dX12_at_63 (by decide) (by omega) (by omega) (fun h_20 => ?_) (fun h_20 => ?_)
          · exfalso; omega
          · refine lv_aload_n hx hb dX12_at_66 rfl (lv_at hl 1 rfl) ?_
            refine gx_RX12_47 (y := v p0 8) hx hb hj hown hK hP q0 ((xf_12_8 I_15 q0).1) (fr_use q0 f_14 rfl) dX12_at_67 ?_
            refine lv_iload_n hx hb dX12_at_70 rfl (lv_at hl 3 rfl) ?_
            have h_21 : (-2147483648) ≤ v_13 (v p0 8) p2 ∧ v_13 (v p0 8) p2 ≤ 2147483647 := xe_37 I_15 h_18 (by omega)
            refine ax_37 (y := v_13 (v p0 8) p2) hx hb hK hP h_18 (by omega) (by omega) (by omega) rfl dX12_at_71 ?_
            refine lv_goto (tgt := 76) hx hb dX12_at_72 (by decide) ?_
            rw [← hQ]
            exact W.iret (v := iI (v_13 (v p0 8) p2)) hx hb hr (fun t ht hW => ⟨⟨iI (v_13 (v p0 8) p2), v_13, rfl, ⟨v_13 (v p0 8) p2, rfl, I_15, (fr_tr f_14 rfl fr_rf), by omega⟩, by rw [ht]; exact hP, va_K.moved hW.alike hK, hD⟩, hS.F ht⟩) hS.2.2 dX12_at_76
      · refine lv_iload_n hx hb dX12_at_24 rfl (lv_at hl 3 rfl) ?_
        refine xq_aload_n hx hb dX12_at_25 rfl (lv_at hl 0 rfl) ?_
        refine jt_q (.ref z_3.toNat) (rv_ref (h_6).1) ?_
        have h_22 : ok L K (v z_3 2) 63 := xf_11_2 hI h_6
        have h_23 : 0 ≤ N (v z_3 2) ∧ N (v z_3 2) ≤ 60 := xn_63 hI h_22
        refine gx_RX12_263 (y := v z_3 2) hx hb hj hown hK hP h_6 ((xf_11_2 hI h_6).1) rfl dX12_at_26 ?_
        refine lx_63 (y := N (v z_3 2)) hx hb hK hP h_22 rfl (by omega) dX12_at_29 ?_
        refine xr_icmp_ge (tgt := 42) hx hb dX12_at_30 (by decide) (by omega) (by omega) (fun h_24 => ?_) (fun h_24 => ?_)
        · refine lv_iconst (v := iI (-1)) hx hb dX12_at_42 rfl ?_
          rw [← hQ]
          exact W.iret (v := iI (-1)) hx hb hr (fun t ht hW => ⟨⟨iI (-1), v, rfl, ⟨(-1), rfl, hI, fr_rf, by omega⟩, by rw [ht]; exact hP, va_K.moved hW.alike hK, hD⟩, hS.F ht⟩) hS.2.2 dX12_at_43
        · refine xq_aload_n hx hb dX12_at_33 rfl (lv_at hl 0 rfl) ?_
          refine jt_q (.ref z_3.toNat) (rv_ref (h_6).1) ?_
          refine gx_RX12_263 (y := v z_3 2) hx hb hj hown hK hP h_6 ((xf_11_2 hI h_6).1) rfl dX12_at_34 ?_
          refine lv_iload_n hx hb dX12_at_37 rfl (lv_at hl 3 rfl) ?_
          have h_25 : (-2147483648) ≤ v (v z_3 2) p2 ∧ v (v z_3 2) p2 ≤ 2147483647 := xe_63 hI h_22 (by omega)
          refine ax_63 (y := v (v z_3 2) p2) hx hb hK hP h_22 (by omega) (by omega) (by omega) rfl dX12_at_38 ?_
          refine lv_goto (tgt := 43) hx hb dX12_at_39 (by decide) ?_
          rw [← hQ]
          exact W.iret (v := iI (v (v z_3 2) p2)) hx hb hr (fun t ht hW => ⟨⟨iI (v (v z_3 2) p2), v, rfl, ⟨v (v z_3 2) p2, rfl, hI, fr_rf, by omega⟩, by rw [ht]; exact hP, va_K.moved hW.alike hK, hD⟩, hS.F ht⟩) hS.2.2 dX12_at_43
    · refine lv_iconst (v := iI (-1)) hx hb dX12_at_14 rfl ?_
      rw [← hQ]
      exact W.iret (v := iI (-1)) hx hb hr (fun t ht hW => ⟨⟨iI (-1), v, rfl, ⟨(-1), rfl, hI, fr_rf, by omega⟩, by rw [ht]; exact hP, va_K.moved hW.alike hK, hD⟩, hS.F ht⟩) hS.2.2 dX12_at_15
set_option maxHeartbeats 2000000 in
set_option maxRecDepth 100000 in
theorem sX12_inRow (l : Launch) (dC : Nat → ClassId) (dI : Nat → Nat → Nat) (sz : Nat) (L : List Nat) (cid : Nat → ClassId) (K : Int → Nat) (N : Int → Int) (tW : Nat) (sK sV : Nat → Nat) (v : Int → Int → Int) (p0 : Int) (p1 : Int) (hI : xI L K N v) (q0 : ok L K p0 12) (q1 : rg p1) : Met l yX12_inRow (jk yX12_inRow cX12_inRow 2 (some (.object "BookOfAll$Entry"))) ({ frames := 1, cells := 0, slots := 0, locals := 21 }) (va_Pc [.ref p0.toNat, .int (iI p1)] (xP (dC, dI) (xG L cid K N v) (xT cid) tW sK sV sz)) (va_Qq (fun (r : Option Nat) (_ : Unit) => ∃ z : Int, r = opt z ∧ (z < 0 ∨ ok L K z 0)) (fun _ _ => True) (va_A [] sz)) 0 0 (va_A [] sz) := by
  refine Met.ofW (cc := cX12_inRow) (maxL := 2) (ret := (some (.object "BookOfAll$Entry"))) (by decide) rfl ?_
  intro p e s m args below meth c s₁ B hml hv
  obtain ⟨rfl, ⟨hsz, hP, hK, hD0⟩, hX⟩ := hv
  have hx := B.exec
  have hb := B.bytes
  have hr := B.returns
  have hts := atoms_spec (ws := (jk yX12_inRow cX12_inRow 2 (some (.object "BookOfAll$Entry")))) B.pre
  have hj : ∀ w ∈ jw, w.before ([.ref p0.toNat, .int (iI p1)] : List Value).toArray s = true := fun w h => hts w (jm h)
  have hown : s.vm.findClass RX12 = some m.cls := findClass_of_methodNamed B.named
  subst hsz
  have hDw := hD0.self (sz := s.heap.size)
  have hAA : ∀ q : Nat, s.heap.size ≤ q → va_A (xG L cid K N v) s.heap.size q := fun q h => Or.inr h
  have hAw : ∀ q, va_A [] s.heap.size q → va_A (xG L cid K N v) s.heap.size q := ja_nil va_S.rf hAA
  generalize hAe : (va_A [] s.heap.size) = A at hAw ⊢
  have hA : ∀ q : Nat, s.heap.size ≤ q → A q := fun q h => by rw [← hAe]; exact Or.inr h
  have hS : va_S A s.heap s.heap [] := va_S.rf
  have hXa := hX.nar hAw
  have hP : va_P (dC, dI) vwCl (xG L cid K N v) s.heap := hP
  have hl := lv_entry ([.ref p0.toNat, .int (iI p1)]) (n := 2) (Nat.le_of_ble_eq_true rfl)
  rw [lg_entry_eq]
  generalize (lg_sl ([.ref p0.toNat, .int (iI p1)]) ++ List.replicate (2 - (lg_sl ([.ref p0.toNat, .int (iI p1)])).length) Slot.unset).toArray = ls at hl ⊢
  have hl : lv_has ls 2 [(0, .ref p0.toNat), (1, .int (iI p1))] := hl
  generalize hQ : MQ below (va_Qq (fun (r : Option Nat) (_ : Unit) => ∃ z : Int, r = opt z ∧ (z < 0 ∨ ok L K z 0)) (fun _ _ => True) A) ([.ref p0.toNat, .int (iI p1)] : List Value).toArray s 0 0 A = Q
  suffices ST : ∀ (H : Heap) (locs : List Loc), va_P (dC, dI) vwCl (xG L cid K N v) H → va_S A s.heap H locs → W p l e ({ frames := 1, cells := 0, slots := 0, locals := 21 }) s m ([.ref p0.toNat, .int (iI p1)] : List Value).toArray below meth c H locs 0 0 Q (F0 m 0 ls []) from ST _ _ hP hS
  clear hP hS
  intro H locs hP hS
  refine lv_iload_n hx hb dX12_inRow_0 rfl (lv_at hl 1 rfl) ?_
  refine xr_if_lt (tgt := 34) hx hb dX12_inRow_1 (by decide) (by omega) (fun h_1 => ?_) (fun h_1 => ?_)
  · refine lv_null hx hb dX12_inRow_34 ?_
    refine jt_q (rv (-1)) rv_nul ?_
    rw [← hQ]
    exact W.aret (v := rv (-1)) hx hb hr (Or.inl ⟨_, rfl⟩) (rv_or (-1)) (fun t ht hW => ⟨⟨opt (-1), (), rfl, ⟨-1, rfl, (Or.inl (by decide))⟩, trivial⟩, hS.F ht⟩) hS.2.2 dX12_inRow_35
  · refine lv_iload_n hx hb dX12_inRow_4 rfl (lv_at hl 1 rfl) ?_
    refine lv_aload_n hx hb dX12_inRow_5 rfl (lv_at hl 0 rfl) ?_
    have h_2 : 0 ≤ v p0 9 ∧ v p0 9 ≤ 60 := xf_12_9 hI q0
    refine gx_RX12_268 (y := v p0 9) hx hb hj hown hK hP q0 rfl dX12_inRow_6 ?_
    refine xr_icmp_ge (tgt := 34) hx hb dX12_inRow_9 (by decide) (by omega) (by omega) (fun h_3 => ?_) (fun h_3 => ?_)
    · refine lv_null hx hb dX12_inRow_34 ?_
      refine jt_q (rv (-1)) rv_nul ?_
      rw [← hQ]
      exact W.aret (v := rv (-1)) hx hb hr (Or.inl ⟨_, rfl⟩) (rv_or (-1)) (fun t ht hW => ⟨⟨opt (-1), (), rfl, ⟨-1, rfl, (Or.inl (by decide))⟩, trivial⟩, hS.F ht⟩) hS.2.2 dX12_inRow_35
    · refine lv_iload_n hx hb dX12_inRow_12 rfl (lv_at hl 1 rfl) ?_
      refine lv_aload_n hx hb dX12_inRow_13 rfl (lv_at hl 0 rfl) ?_
      have h_4 : ok L K (v p0 8) 37 := xf_12_8 hI q0
      have h_5 : N (v p0 8) = 60 := xn_37 hI h_4
      refine gx_RX12_47 (y := v p0 8) hx hb hj hown hK hP q0 ((xf_12_8 hI q0).1) rfl dX12_inRow_14 ?_
      refine lx_37 (y := 60) hx hb hK hP h_4 (by omega) (by omega) dX12_inRow_17 ?_
      refine xr_icmp_ge (tgt := 34) hx hb dX12_inRow_18 (by decide) (by omega) (by omega) (fun h_6 => ?_) (fun h_6 => ?_)
      · exfalso; omega
      · refine lv_aload_n hx hb dX12_inRow_21 rfl (lv_at hl 0 rfl) ?_
        refine lv_aload_n hx hb dX12_inRow_22 rfl (lv_at hl 0 rfl) ?_
        refine gx_RX12_47 (y := v p0 8) hx hb hj hown hK hP q0 ((xf_12_8 hI q0).1) rfl dX12_inRow_23 ?_
        refine lv_iload_n hx hb dX12_inRow_26 rfl (lv_at hl 1 rfl) ?_
        have h_7 : (-2147483648) ≤ v (v p0 8) p1 ∧ v (v p0 8) p1 ≤ 2147483647 := xe_37 hI h_4 (by omega)
        refine ax_37 (y := v (v p0 8) p1) hx hb hK hP h_4 (by omega) (by omega) (by omega) rfl dX12_inRow_27 ?_
        refine jc_q (va_runV (As := [.int (iI (v (v p0 8) p1))]) (rest := []) ⟨hx, hb, hml, hown, hts⟩ (sX12_entryAt l dC dI _ L cid K N tW sK sV v p0 (v (v p0 8) p1) hI q0 (by omega)) (cwV 1 hts (jgoodV m_870 m_871 m_872 m_873 m_874) rfl rfl rfl (by decide +kernel) ⟨(Nat.le_of_ble_eq_true rfl), (Nat.le_of_ble_eq_true rfl)⟩) ⟨xP_blind, xrecv hK hP q0 rfl rfl, fun U hU hW => ⟨rfl, xP_of hU hW hP hK hDw hX hS hAw hAA⟩⟩ rfl rfl hl.1 rfl (lv_room (Nat.le_of_ble_eq_true rfl)) dX12_inRow_28 ⟨(Nat.le_of_ble_eq_true rfl), (Nat.le_of_ble_eq_true rfl)⟩) hP hS hA (fun r_8 H locs w_9 hP hS => ?_)
        obtain ⟨z_10, rfl, h_11⟩ := w_9
        refine jt_q (rv z_10) rfl ?_
        refine lv_goto (tgt := 35) hx hb dX12_inRow_31 (by decide) ?_
        rw [← hQ]
        exact W.aret (v := rv z_10) hx hb hr (Or.inl ⟨_, rfl⟩) (rv_or z_10) (fun t ht hW => ⟨⟨opt z_10, (), rfl, ⟨z_10, rfl, h_11⟩, trivial⟩, hS.F ht⟩) hS.2.2 dX12_inRow_35
set_option maxHeartbeats 2000000 in
set_option maxRecDepth 100000 in
theorem sX12_why (l : Launch) (dC : Nat → ClassId) (dI : Nat → Nat → Nat) (sz : Nat) (L : List Nat) (cid : Nat → ClassId) (K : Int → Nat) (N : Int → Int) (tW : Nat) (sK sV : Nat → Nat) (v : Int → Int → Int) (p0 : Int) (p1 : Int) (p2 : Int) (hI : xI L K N v) (q0 : ok L K p0 12) (q1 : rg p1) (q2 : rg p2) : Met l yX12_why (jk yX12_why cX12_why 7 (some .int)) ({ frames := 5, cells := 0, slots := 0, locals := 137 }) (va_Pc [.ref p0.toNat, .int (iI p1), .int (iI p2)] (xP (dC, dI) (xG L cid K N v) (xT cid) tW sK sV sz)) (va_Qi (fun (r : Int32) (u : (Int → Int → Int)) => ∃ z : Int, r = iI z ∧ (xI L K N u) ∧ (fr K [(0, 5), (6, 1), (6, 2), (6, 3), (6, 4), (6, 5), (34, (-1))] u v) ∧ (rg z)) (fun u t => va_P (dC, dI) vwCl (xG L cid K N u) t.heap ∧ va_K (dC, dI) vwCl (xT cid) t ∧ va_D (va_A (xG L cid K N v) sz) (xG L cid K N u)) (va_A (xG L cid K N v) sz)) 0 0 (va_A (xG L cid K N v) sz) := by
  refine Met.ofW (cc := cX12_why) (maxL := 7) (ret := (some .int)) (by decide) rfl ?_
  intro p e s m args below meth c s₁ B hml hv
  obtain ⟨rfl, ⟨hsz, hP, hK, hD0⟩, hX⟩ := hv
  have hx := B.exec
  have hb := B.bytes
  have hr := B.returns
  have hts := atoms_spec (ws := (jk yX12_why cX12_why 7 (some .int))) B.pre
  have hj : ∀ w ∈ jw, w.before ([.ref p0.toNat, .int (iI p1), .int (iI p2)] : List Value).toArray s = true := fun w h => hts w (jm h)
  have hown : s.vm.findClass RX12 = some m.cls := findClass_of_methodNamed B.named
  subst hsz
  have hD := hD0.self (sz := s.heap.size)
  generalize hAe : (va_A (xG L cid K N v) s.heap.size) = A at hD hX ⊢
  have hA : ∀ q : Nat, s.heap.size ≤ q → A q := fun q h => by rw [← hAe]; exact Or.inr h
  have hS : va_S A s.heap s.heap [] := va_S.rf
  have hXa := hX
  have hP : va_P (dC, dI) vwCl (xG L cid K N v) s.heap := hP
  have hl := lv_entry ([.ref p0.toNat, .int (iI p1), .int (iI p2)]) (n := 7) (Nat.le_of_ble_eq_true rfl)
  rw [lg_entry_eq]
  generalize (lg_sl ([.ref p0.toNat, .int (iI p1), .int (iI p2)]) ++ List.replicate (7 - (lg_sl ([.ref p0.toNat, .int (iI p1), .int (iI p2)])).length) Slot.unset).toArray = ls at hl ⊢
  have hl : lv_has ls 7 [(0, .ref p0.toNat), (1, .int (iI p1)), (2, .int (iI p2))] := hl
  generalize hQ : MQ below (va_Qi (fun (r : Int32) (u : (Int → Int → Int)) => ∃ z : Int, r = iI z ∧ (xI L K N u) ∧ (fr K [(0, 5), (6, 1), (6, 2), (6, 3), (6, 4), (6, 5), (34, (-1))] u v) ∧ (rg z)) (fun u t => va_P (dC, dI) vwCl (xG L cid K N u) t.heap ∧ va_K (dC, dI) vwCl (xT cid) t ∧ va_D A (xG L cid K N u)) A) ([.ref p0.toNat, .int (iI p1), .int (iI p2)] : List Value).toArray s 0 0 A = Q
  suffices ST : ∀ (H : Heap) (locs : List Loc), va_P (dC, dI) vwCl (xG L cid K N v) H → va_S A s.heap H locs → W p l e ({ frames := 5, cells := 0, slots := 0, locals := 137 }) s m ([.ref p0.toNat, .int (iI p1), .int (iI p2)] : List Value).toArray below meth c H locs 0 0 Q (F0 m 0 ls []) from ST _ _ hP hS
  clear hP hS
  intro H locs hP hS
  refine lv_aload_n hx hb dX12_why_0 rfl (lv_at hl 0 rfl) ?_
  refine lv_iload_n hx hb dX12_why_1 rfl (lv_at hl 1 rfl) ?_
  refine jc_q (va_runV (As := [.int (iI p1)]) (rest := []) ⟨hx, hb, hml, hown, hts⟩ (sX12_entryAt l dC dI _ L cid K N tW sK sV v p0 p1 hI q0 (by omega)) (cwV 1 hts (jgoodV m_870 m_871 m_872 m_873 m_874) rfl rfl rfl (by decide +kernel) ⟨(Nat.le_of_ble_eq_true rfl), (Nat.le_of_ble_eq_true rfl)⟩) ⟨xP_blind, xrecv hK hP q0 rfl rfl, fun U hU hW => ⟨rfl, xP_of hU hW hP hK hD hX hS (fun _ h => h) hA⟩⟩ rfl rfl hl.1 rfl (lv_room (Nat.le_of_ble_eq_true rfl)) dX12_why_2 ⟨(Nat.le_of_ble_eq_true rfl), (Nat.le_of_ble_eq_true rfl)⟩) hP hS hA (fun r_1 H locs w_2 hP hS => ?_)
  obtain ⟨z_3, rfl, h_4⟩ := w_2
  refine jt_q (rv z_3) rfl ?_
  refine xq_astore_n (i := 3) (lv' := [(3, rv z_3), (0, .ref p0.toNat), (1, .int (iI p1)), (2, .int (iI p2))]) hx hb dX12_why_5 rfl hl (by decide) rfl (fun ls hl => ?_)
  refine lv_aload_n hx hb dX12_why_6 rfl (lv_at hl 1 rfl) ?_
  refine lv_iload_n hx hb dX12_why_7 rfl (lv_at hl 3 rfl) ?_
  refine jc_q (va_runV (As := [.int (iI p2)]) (rest := []) ⟨hx, hb, hml, hown, hts⟩ (sX12_entryAt l dC dI _ L cid K N tW sK sV v p0 p2 hI q0 (by omega)) (cwV 1 hts (jgoodV m_870 m_871 m_872 m_873 m_874) rfl rfl rfl (by decide +kernel) ⟨(Nat.le_of_ble_eq_true rfl), (Nat.le_of_ble_eq_true rfl)⟩) ⟨xP_blind, xrecv hK hP q0 rfl rfl, fun U hU hW => ⟨rfl, xP_of hU hW hP hK hD hX hS (fun _ h => h) hA⟩⟩ rfl rfl hl.1 rfl (lv_room (Nat.le_of_ble_eq_true rfl)) dX12_why_8 ⟨(Nat.le_of_ble_eq_true rfl), (Nat.le_of_ble_eq_true rfl)⟩) hP hS hA (fun r_5 H locs w_6 hP hS => ?_)
  obtain ⟨z_7, rfl, h_8⟩ := w_6
  refine jt_q (rv z_7) rfl ?_
  refine xq_astore (i := 4) (lv' := [(4, rv z_7), (3, rv z_3), (0, .ref p0.toNat), (1, .int (iI p1)), (2, .int (iI p2))]) hx hb dX12_why_11 hl (by decide) (by simp [rv_cat]) (fun ls hl => ?_)
  refine xq_aload_n hx hb dX12_why_13 rfl (lv_at hl 1 rfl) ?_
  refine xq_ifnull (tgt := 27) hx hb dX12_why_14 (by decide) (fun h_9 => ?_) (fun h_9 => ?_)
  · refine lv_iconst (v := iI (-1)) hx hb dX12_why_27 rfl ?_
    rw [← hQ]
    exact W.iret (v := iI (-1)) hx hb hr (fun t ht hW => ⟨⟨iI (-1), v, rfl, ⟨(-1), rfl, hI, fr_rf, by omega⟩, by rw [ht]; exact hP, va_K.moved hW.alike hK, hD⟩, hS.F ht⟩) hS.2.2 dX12_why_28
  · have h_10 : ok L K z_3 0 := h_4.resolve_left (by omega)
    refine xq_aload hx hb dX12_why_17 (lv_at hl 0 rfl) ?_
    refine xq_ifnull (tgt := 27) hx hb dX12_why_19 (by decide) (fun h_11 => ?_) (fun h_11 => ?_)
    · refine lv_iconst (v := iI (-1)) hx hb dX12_why_27 rfl ?_
      rw [← hQ]
      exact W.iret (v := iI (-1)) hx hb hr (fun t ht hW => ⟨⟨iI (-1), v, rfl, ⟨(-1), rfl, hI, fr_rf, by omega⟩, by rw [ht]; exact hP, va_K.moved hW.alike hK, hD⟩, hS.F ht⟩) hS.2.2 dX12_why_28
    · have h_12 : ok L K z_7 0 := h_8.resolve_left (by omega)
      refine lv_iload_n hx hb dX12_why_22 rfl (lv_at hl 3 rfl) ?_
      refine lv_iload_n hx hb dX12_why_23 rfl (lv_at hl 4 rfl) ?_
      refine xr_icmp_ne (tgt := 29) hx hb dX12_why_24 (by decide) (by omega) (by omega) (fun h_13 => ?_) (fun h_13 => ?_)
      · refine lv_aload_n hx hb dX12_why_29 rfl (lv_at hl 2 rfl) ?_
        have h_14 : ok L K (v p0 4) 6 := xf_12_4 hI q0
        refine gx_RX12_28 (y := v p0 4) hx hb hj hown hK hP q0 ((xf_12_4 hI q0).1) rfl dX12_why_30 ?_
        refine lv_iconst (v := iI (-1)) hx hb dX12_why_33 rfl ?_
        refine lv_aload_n hx hb dX12_why_34 rfl (lv_at hl 2 rfl) ?_
        have h_15 : 0 ≤ v p0 0 ∧ v p0 0 ≤ 2000 := xf_12_0 hI q0
        refine gx_RX12_133 (y := v p0 0) hx hb hj hown hK hP q0 rfl dX12_why_35 ?_
        refine jcg_v (va_runV (As := [.int (iI (-1)), .int (iI (v p0 0))]) (rest := []) ⟨hx, hb, hml, hown, hts⟩ (sX6_take l dC dI _ L cid K N tW sK sV v (v p0 4) (-1) (v p0 0) hI h_14 (by omega) (by omega)) (cwV 2 hts (jgoodV m_1003 m_1004 m_1005 m_860 m_1006) rfl rfl rfl (by decide +kernel) ⟨(Nat.le_of_ble_eq_true rfl), (Nat.le_of_ble_eq_true rfl)⟩) ⟨xP_blind, xrecv hK hP h_14 rfl rfl, fun U hU hW => ⟨rfl, xP_of hU hW hP hK hD hX hS (fun _ h => h) hA⟩⟩ rfl rfl hl.1 rfl (lv_room (Nat.le_of_ble_eq_true rfl)) dX12_why_38 ⟨(Nat.le_of_ble_eq_true rfl), (Nat.le_of_ble_eq_true rfl)⟩) hD hS hA (fun v_19 H locs w_17 hP hK hD hS => ?_)
        obtain ⟨I_21, f_20⟩ := w_17
        have hP : va_P (dC, dI) vwCl (xG L cid K N v_19) H := hP
        have hD : va_D A (xG L cid K N v_19) := hD
        refine lv_aload_n hx hb dX12_why_41 rfl (lv_at hl 2 rfl) ?_
        refine gx_RX12_28 (y := v p0 4) hx hb hj hown hK hP q0 ((xf_12_4 I_21 q0).1) (fr_use q0 f_20 rfl) dX12_why_42 ?_
        refine xq_aload_n hx hb dX12_why_45 rfl (lv_at hl 1 rfl) ?_
        refine jt_q (.ref z_3.toNat) (rv_ref (h_10).1) ?_
        refine jcg_v (va_runV (As := [.ref z_3.toNat]) (rest := []) ⟨hx, hb, hml, hown, hts⟩ (sX6_prepare l dC dI _ L cid K N tW sK sV v_19 (v p0 4) z_3 I_21 h_14 h_10) (cwV 1 hts (jgoodV m_993 m_994 m_995 m_860 m_996) rfl rfl rfl (by decide +kernel) ⟨(Nat.le_of_ble_eq_true rfl), (Nat.le_of_ble_eq_true rfl)⟩) ⟨xP_blind, xrecv hK hP h_14 rfl rfl, fun U hU hW => ⟨rfl, xP_of hU hW hP hK hD hX hS (fun _ h => h) hA⟩⟩ rfl rfl hl.1 rfl (lv_room (Nat.le_of_ble_eq_true rfl)) dX12_why_46 ⟨(Nat.le_of_ble_eq_true rfl), (Nat.le_of_ble_eq_true rfl)⟩) hD hS hA (fun v_25 H locs w_23 hP hK hD hS => ?_)
        obtain ⟨I_27, f_26⟩ := w_23
        have hP : va_P (dC, dI) vwCl (xG L cid K N v_25) H := hP
        have hD : va_D A (xG L cid K N v_25) := hD
        refine lv_aload_n hx hb dX12_why_49 rfl (lv_at hl 2 rfl) ?_
        refine gx_RX12_28 (y := v p0 4) hx hb hj hown hK hP q0 ((xf_12_4 I_27 q0).1) (((fr_use q0 f_26 rfl)).trans (fr_use q0 f_20 rfl)) dX12_why_50 ?_
        refine xq_aload hx hb dX12_why_53 (lv_at hl 0 rfl) ?_
        refine jt_q (.ref z_7.toNat) (rv_ref (h_12).1) ?_
        refine jcg_v (va_runV (As := [.ref z_7.toNat]) (rest := []) ⟨hx, hb, hml, hown, hts⟩ (sX6_prepare l dC dI _ L cid K N tW sK sV v_25 (v p0 4) z_7 I_27 h_14 h_12) (cwV 1 hts (jgoodV m_993 m_994 m_995 m_860 m_996) rfl rfl rfl (by decide +kernel) ⟨(Nat.le_of_ble_eq_true rfl), (Nat.le_of_ble_eq_true rfl)⟩) ⟨xP_blind, xrecv hK hP h_14 rfl rfl, fun U hU hW => ⟨rfl, xP_of hU hW hP hK hD hX hS (fun _ h => h) hA⟩⟩ rfl rfl hl.1 rfl (lv_room (Nat.le_of_ble_eq_true rfl)) dX12_why_55 ⟨(Nat.le_of_ble_eq_true rfl), (Nat.le_of_ble_eq_true rfl)⟩) hD hS hA (fun v_31 H locs w_29 hP hK hD hS => ?_)
        obtain ⟨I_33, f_32⟩ := w_29
        have hP : va_P (dC, dI) vwCl (xG L cid K N v_31) H := hP
        have hD : va_D A (xG L cid K N v_31) := hD
        refine lv_aload_n hx hb dX12_why_58 rfl (lv_at hl 2 rfl) ?_
        refine gx_RX12_28 (y := v p0 4) hx hb hj hown hK hP q0 ((xf_12_4 I_33 q0).1) (((fr_use q0 f_32 rfl)).trans (((fr_use q0 f_26 rfl)).trans (fr_use q0 f_20 rfl))) dX12_why_59 ?_
        refine xq_aload_n hx hb dX12_why_62 rfl (lv_at hl 1 rfl) ?_
        refine jt_q (.ref z_3.toNat) (rv_ref (h_10).1) ?_
        refine xq_aload hx hb dX12_why_63 (lv_at hl 0 rfl) ?_
        refine jt_q (.ref z_7.toNat) (rv_ref (h_12).1) ?_
        refine jc_i (va_runV (As := [.ref z_3.toNat, .ref z_7.toNat]) (rest := []) ⟨hx, hb, hml, hown, hts⟩ (sX6_compareKeys l dC dI _ L cid K N tW sK sV v_31 (v p0 4) z_3 z_7 I_33 h_14 h_10 h_12) (cwV 2 hts (jgoodV m_1051 m_863 m_864 m_860 m_865) rfl rfl rfl (by decide +kernel) ⟨(Nat.le_of_ble_eq_true rfl), (Nat.le_of_ble_eq_true rfl)⟩) ⟨xP_blind, xrecv hK hP h_14 rfl rfl, fun U hU hW => ⟨rfl, xP_of hU hW hP hK hD hX hS (fun _ h => h) hA⟩⟩ rfl rfl hl.1 rfl (lv_room (Nat.le_of_ble_eq_true rfl)) dX12_why_65 ⟨(Nat.le_of_ble_eq_true rfl), (Nat.le_of_ble_eq_true rfl)⟩) hP hS hA (fun r_34 H locs w_35 hP hS => ?_)
        obtain ⟨z_36, rfl, h_37⟩ := w_35
        refine xr_if_ne (tgt := 73) hx hb dX12_why_68 (by decide) (by omega) (fun h_38 => ?_) (fun h_38 => ?_)
        · refine lv_aload_n hx hb dX12_why_73 rfl (lv_at hl 2 rfl) ?_
          refine gx_RX12_28 (y := v p0 4) hx hb hj hown hK hP q0 ((xf_12_4 I_33 q0).1) (((fr_use q0 f_32 rfl)).trans (((fr_use q0 f_26 rfl)).trans (fr_use q0 f_20 rfl))) dX12_why_74 ?_
          refine xq_aload_n hx hb dX12_why_77 rfl (lv_at hl 1 rfl) ?_
          refine jt_q (.ref z_3.toNat) (rv_ref (h_10).1) ?_
          refine xq_aload hx hb dX12_why_78 (lv_at hl 0 rfl) ?_
          refine jt_q (.ref z_7.toNat) (rv_ref (h_12).1) ?_
          refine jc_i (va_runV (As := [.ref z_3.toNat, .ref z_7.toNat]) (rest := []) ⟨hx, hb, hml, hown, hts⟩ (sX6_isAhead l dC dI _ L cid K N tW sK sV v_31 (v p0 4) z_3 z_7 I_33 h_14 h_10 h_12) (cwV 2 hts (jgoodV m_875 m_876 m_877 m_860 m_878) rfl rfl rfl (by decide +kernel) ⟨(Nat.le_of_ble_eq_true rfl), (Nat.le_of_ble_eq_true rfl)⟩) ⟨xP_blind, xrecv hK hP h_14 rfl rfl, fun U hU hW => ⟨rfl, xP_of hU hW hP hK hD hX hS (fun _ h => h) hA⟩⟩ rfl rfl hl.1 rfl (lv_room (Nat.le_of_ble_eq_true rfl)) dX12_why_80 ⟨(Nat.le_of_ble_eq_true rfl), (Nat.le_of_ble_eq_true rfl)⟩) hP hS hA (fun r_39 H locs w_40 hP hS => ?_)
          obtain ⟨z_41, rfl, h_42⟩ := w_40
          refine lv_istore (i := 5) (lv' := [(5, .int (iI z_41)), (4, rv z_7), (3, rv z_3), (0, .ref p0.toNat), (1, .int (iI p1)), (2, .int (iI p2))]) hx hb dX12_why_83 hl (by decide) (by simp [rv_cat]) (fun ls hl => ?_)
          refine lv_iconst (v := iI 1) hx hb dX12_why_85 rfl ?_
          refine lv_istore (i := 6) (lv' := [(6, .int (iI 1)), (5, .int (iI z_41)), (4, rv z_7), (3, rv z_3), (0, .ref p0.toNat), (1, .int (iI p1)), (2, .int (iI p2))]) hx hb dX12_why_86 hl (by decide) rfl (fun ls hl => ?_)
          have L88 : ∀ (n88 : Nat) (a6_88 : Int) (vc88 : Int → Int → Int) (H : Heap) (locs : List Loc) (ls : Array Slot), (1 ≤ a6_88 ∧ a6_88 ≤ 4) → (0 < (n88 : Int) ∧ 3 - a6_88 + 1 < (n88 : Int)) → fr K [(0, 5), (6, 1), (6, 2), (6, 3), (6, 4), (6, 5), (34, (-1))] vc88 v_31 → xI L K N vc88 → va_P (dC, dI) vwCl (xG L cid K N vc88) H → va_D A (xG L cid K N vc88) → va_S A s.heap H locs → lv_has ls 7 [(6, .int (iI a6_88)), (5, .int (iI z_41)), (4, rv z_7), (3, rv z_3), (0, .ref p0.toNat), (1, .int (iI p1)), (2, .int (iI p2))] → W p l e ({ frames := 5, cells := 0, slots := 0, locals := 137 }) s m ([.ref p0.toNat, .int (iI p1), .int (iI p2)] : List Value).toArray below meth c H locs 0 0 Q (F0 m 88 ls []) := by
            intro n88
            induction n88 with
            | zero =>
              intro a6_88 vc88 H locs ls h_43 hm88 f_44 I_45 hP hD hS hl
              exfalso; omega
            | succ n88 ih88 =>
              intro a6_88 vc88 H locs ls h_46 hm88 f_47 I_48 hP hD hS hl
              refine lv_iload hx hb dX12_why_88 (lv_at hl 0 rfl) ?_
              refine lv_iconst (v := iI 3) hx hb dX12_why_90 rfl ?_
              refine xr_icmp_gt (tgt := 156) hx hb dX12_why_91 (by decide) (by omega) (by omega) (fun h_49 => ?_) (fun h_49 => ?_)
              · refine lv_iconst (v := iI 0) hx hb dX12_why_156 rfl ?_
                rw [← hQ]
                exact W.iret (v := iI 0) hx hb hr (fun t ht hW => ⟨⟨iI 0, vc88, rfl, ⟨0, rfl, I_48, (fr_tr f_47 rfl (fr_tr f_32 rfl (fr_tr f_26 rfl (fr_tr f_20 rfl fr_rf)))), by omega⟩, by rw [ht]; exact hP, va_K.moved hW.alike hK, hD⟩, hS.F ht⟩) hS.2.2 dX12_why_157
              · refine lv_aload_n hx hb dX12_why_94 rfl (lv_at hl 4 rfl) ?_
                refine gx_RX12_28 (y := v p0 4) hx hb hj hown hK hP q0 ((xf_12_4 I_48 q0).1) (((fr_use q0 f_47 rfl)).trans (((fr_use q0 f_32 rfl)).trans (((fr_use q0 f_26 rfl)).trans (fr_use q0 f_20 rfl)))) dX12_why_95 ?_
                refine lv_iconst (v := iI (-1)) hx hb dX12_why_98 rfl ?_
                refine lv_aload_n hx hb dX12_why_99 rfl (lv_at hl 4 rfl) ?_
                refine gx_RX12_133 (y := v p0 0) hx hb hj hown hK hP q0 (((fr_use q0 f_47 rfl)).trans (((fr_use q0 f_32 rfl)).trans (((fr_use q0 f_26 rfl)).trans (fr_use q0 f_20 rfl)))) dX12_why_100 ?_
                refine jcg_v (va_runV (As := [.int (iI (-1)), .int (iI (v p0 0))]) (rest := []) ⟨hx, hb, hml, hown, hts⟩ (sX6_take l dC dI _ L cid K N tW sK sV vc88 (v p0 4) (-1) (v p0 0) I_48 h_14 (by omega) (by omega)) (cwV 2 hts (jgoodV m_1003 m_1004 m_1005 m_860 m_1006) rfl rfl rfl (by decide +kernel) ⟨(Nat.le_of_ble_eq_true rfl), (Nat.le_of_ble_eq_true rfl)⟩) ⟨xP_blind, xrecv hK hP h_14 rfl rfl, fun U hU hW => ⟨rfl, xP_of hU hW hP hK hD hX hS (fun _ h => h) hA⟩⟩ rfl rfl hl.1 rfl (lv_room (Nat.le_of_ble_eq_true rfl)) dX12_why_103 ⟨(Nat.le_of_ble_eq_true rfl), (Nat.le_of_ble_eq_true rfl)⟩) hD hS hA (fun v_53 H locs w_51 hP hK hD hS => ?_)
                obtain ⟨I_55, f_54⟩ := w_51
                have hP : va_P (dC, dI) vwCl (xG L cid K N v_53) H := hP
                have hD : va_D A (xG L cid K N v_53) := hD
                refine lv_aload_n hx hb dX12_why_106 rfl (lv_at hl 4 rfl) ?_
                refine gx_RX12_28 (y := v p0 4) hx hb hj hown hK hP q0 ((xf_12_4 I_55 q0).1) (((fr_use q0 f_54 rfl)).trans (((fr_use q0 f_47 rfl)).trans (((fr_use q0 f_32 rfl)).trans (((fr_use q0 f_26 rfl)).trans (fr_use q0 f_20 rfl))))) dX12_why_107 ?_
                refine lv_iload hx hb dX12_why_110 (lv_at hl 0 rfl) ?_
                refine jcg_v (va_runV (As := [.int (iI a6_88)]) (rest := []) ⟨hx, hb, hml, hown, hts⟩ (sX6_turn l dC dI _ L cid K N tW sK sV v_53 (v p0 4) a6_88 I_55 h_14 (by omega)) (cwV 1 hts (jgoodV m_1052 m_1053 m_1054 m_860 m_1055) rfl rfl rfl (by decide +kernel) ⟨(Nat.le_of_ble_eq_true rfl), (Nat.le_of_ble_eq_true rfl)⟩) ⟨xP_blind, xrecv hK hP h_14 rfl rfl, fun U hU hW => ⟨rfl, xP_of hU hW hP hK hD hX hS (fun _ h => h) hA⟩⟩ rfl rfl hl.1 rfl (lv_room (Nat.le_of_ble_eq_true rfl)) dX12_why_112 ⟨(Nat.le_of_ble_eq_true rfl), (Nat.le_of_ble_eq_true rfl)⟩) hD hS hA (fun v_59 H locs w_57 hP hK hD hS => ?_)
                obtain ⟨I_61, f_60⟩ := w_57
                have hP : va_P (dC, dI) vwCl (xG L cid K N v_59) H := hP
                have hD : va_D A (xG L cid K N v_59) := hD
                refine lv_aload_n hx hb dX12_why_115 rfl (lv_at hl 4 rfl) ?_
                refine gx_RX12_28 (y := v p0 4) hx hb hj hown hK hP q0 ((xf_12_4 I_61 q0).1) (((fr_use q0 f_60 rfl)).trans (((fr_use q0 f_54 rfl)).trans (((fr_use q0 f_47 rfl)).trans (((fr_use q0 f_32 rfl)).trans (((fr_use q0 f_26 rfl)).trans (fr_use q0 f_20 rfl)))))) dX12_why_116 ?_
                refine xq_aload_n hx hb dX12_why_119 rfl (lv_at hl 3 rfl) ?_
                refine jt_q (.ref z_3.toNat) (rv_ref (h_10).1) ?_
                refine jcg_v (va_runV (As := [.ref z_3.toNat]) (rest := []) ⟨hx, hb, hml, hown, hts⟩ (sX6_prepare l dC dI _ L cid K N tW sK sV v_59 (v p0 4) z_3 I_61 h_14 h_10) (cwV 1 hts (jgoodV m_993 m_994 m_995 m_860 m_996) rfl rfl rfl (by decide +kernel) ⟨(Nat.le_of_ble_eq_true rfl), (Nat.le_of_ble_eq_true rfl)⟩) ⟨xP_blind, xrecv hK hP h_14 rfl rfl, fun U hU hW => ⟨rfl, xP_of hU hW hP hK hD hX hS (fun _ h => h) hA⟩⟩ rfl rfl hl.1 rfl (lv_room (Nat.le_of_ble_eq_true rfl)) dX12_why_120 ⟨(Nat.le_of_ble_eq_true rfl), (Nat.le_of_ble_eq_true rfl)⟩) hD hS hA (fun v_65 H locs w_63 hP hK hD hS => ?_)
                obtain ⟨I_67, f_66⟩ := w_63
                have hP : va_P (dC, dI) vwCl (xG L cid K N v_65) H := hP
                have hD : va_D A (xG L cid K N v_65) := hD
                refine lv_aload_n hx hb dX12_why_123 rfl (lv_at hl 4 rfl) ?_
                refine gx_RX12_28 (y := v p0 4) hx hb hj hown hK hP q0 ((xf_12_4 I_67 q0).1) (((fr_use q0 f_66 rfl)).trans (((fr_use q0 f_60 rfl)).trans (((fr_use q0 f_54 rfl)).trans (((fr_use q0 f_47 rfl)).trans (((fr_use q0 f_32 rfl)).trans (((fr_use q0 f_26 rfl)).trans (fr_use q0 f_20 rfl))))))) dX12_why_124 ?_
                refine xq_aload hx hb dX12_why_127 (lv_at hl 2 rfl) ?_
                refine jt_q (.ref z_7.toNat) (rv_ref (h_12).1) ?_
                refine jcg_v (va_runV (As := [.ref z_7.toNat]) (rest := []) ⟨hx, hb, hml, hown, hts⟩ (sX6_prepare l dC dI _ L cid K N tW sK sV v_65 (v p0 4) z_7 I_67 h_14 h_12) (cwV 1 hts (jgoodV m_993 m_994 m_995 m_860 m_996) rfl rfl rfl (by decide +kernel) ⟨(Nat.le_of_ble_eq_true rfl), (Nat.le_of_ble_eq_true rfl)⟩) ⟨xP_blind, xrecv hK hP h_14 rfl rfl, fun U hU hW => ⟨rfl, xP_of hU hW hP hK hD hX hS (fun _ h => h) hA⟩⟩ rfl rfl hl.1 rfl (lv_room (Nat.le_of_ble_eq_true rfl)) dX12_why_129 ⟨(Nat.le_of_ble_eq_true rfl), (Nat.le_of_ble_eq_true rfl)⟩) hD hS hA (fun v_71 H locs w_69 hP hK hD hS => ?_)
                obtain ⟨I_73, f_72⟩ := w_69
                have hP : va_P (dC, dI) vwCl (xG L cid K N v_71) H := hP
                have hD : va_D A (xG L cid K N v_71) := hD
                refine lv_aload_n hx hb dX12_why_132 rfl (lv_at hl 4 rfl) ?_
                refine gx_RX12_28 (y := v p0 4) hx hb hj hown hK hP q0 ((xf_12_4 I_73 q0).1) (((fr_use q0 f_72 rfl)).trans (((fr_use q0 f_66 rfl)).trans (((fr_use q0 f_60 rfl)).trans (((fr_use q0 f_54 rfl)).trans (((fr_use q0 f_47 rfl)).trans (((fr_use q0 f_32 rfl)).trans (((fr_use q0 f_26 rfl)).trans (fr_use q0 f_20 rfl)))))))) dX12_why_133 ?_
                refine xq_aload_n hx hb dX12_why_136 rfl (lv_at hl 3 rfl) ?_
                refine jt_q (.ref z_3.toNat) (rv_ref (h_10).1) ?_
                refine xq_aload hx hb dX12_why_137 (lv_at hl 2 rfl) ?_
                refine jt_q (.ref z_7.toNat) (rv_ref (h_12).1) ?_
                refine jc_i (va_runV (As := [.ref z_3.toNat, .ref z_7.toNat]) (rest := []) ⟨hx, hb, hml, hown, hts⟩ (sX6_isAhead l dC dI _ L cid K N tW sK sV v_71 (v p0 4) z_3 z_7 I_73 h_14 h_10 h_12) (cwV 2 hts (jgoodV m_875 m_876 m_877 m_860 m_878) rfl rfl rfl (by decide +kernel) ⟨(Nat.le_of_ble_eq_true rfl), (Nat.le_of_ble_eq_true rfl)⟩) ⟨xP_blind, xrecv hK hP h_14 rfl rfl, fun U hU hW => ⟨rfl, xP_of hU hW hP hK hD hX hS (fun _ h => h) hA⟩⟩ rfl rfl hl.1 rfl (lv_room (Nat.le_of_ble_eq_true rfl)) dX12_why_139 ⟨(Nat.le_of_ble_eq_true rfl), (Nat.le_of_ble_eq_true rfl)⟩) hP hS hA (fun r_74 H locs w_75 hP hS => ?_)
                obtain ⟨z_76, rfl, h_77⟩ := w_75
                refine lv_iload hx hb dX12_why_142 (lv_at hl 1 rfl) ?_
                refine xr_icmp_eq (tgt := 150) hx hb dX12_why_144 (by decide) (by omega) (by omega) (fun h_78 => ?_) (fun h_78 => ?_)
                · refine lv_iinc (v := iI (a6_88 + 1)) (lv' := [(6, .int (iI (a6_88 + 1))), (5, .int (iI z_41)), (4, rv z_7), (3, rv z_3), (0, .ref p0.toNat), (1, .int (iI p1)), (2, .int (iI p2))]) hx hb dX12_why_150 hl (k := 0) rfl (iI_add _ _) (by decide) rfl (fun ls hl => ?_)
                  refine lv_goto (tgt := 88) hx hb dX12_why_153 (by decide) ?_
                  exact ih88 (a6_88 + 1) v_71 H locs ls (by omega) (by omega) (fr_tr f_72 rfl (fr_tr f_66 rfl (fr_tr f_60 rfl (fr_tr f_54 rfl (fr_tr f_47 rfl fr_rf))))) I_73 hP hD hS hl
                · refine lv_iload hx hb dX12_why_147 (lv_at hl 0 rfl) ?_
                  rw [← hQ]
                  exact W.iret (v := iI a6_88) hx hb hr (fun t ht hW => ⟨⟨iI a6_88, v_71, rfl, ⟨a6_88, rfl, I_73, (fr_tr f_72 rfl (fr_tr f_66 rfl (fr_tr f_60 rfl (fr_tr f_54 rfl (fr_tr f_47 rfl (fr_tr f_32 rfl (fr_tr f_26 rfl (fr_tr f_20 rfl fr_rf)))))))), by omega⟩, by rw [ht]; exact hP, va_K.moved hW.alike hK, hD⟩, hS.F ht⟩) hS.2.2 dX12_why_149
          exact L88 (((3 - 1 + 1 : Int)).toNat + 1) 1 v_31 H locs ls (by omega) (by omega) fr_rf I_33 hP hD hS hl
        · refine lv_iconst (v := iI 4) hx hb dX12_why_71 rfl ?_
          rw [← hQ]
          exact W.iret (v := iI 4) hx hb hr (fun t ht hW => ⟨⟨iI 4, v_31, rfl, ⟨4, rfl, I_33, (fr_tr f_32 rfl (fr_tr f_26 rfl (fr_tr f_20 rfl fr_rf))), by omega⟩, by rw [ht]; exact hP, va_K.moved hW.alike hK, hD⟩, hS.F ht⟩) hS.2.2 dX12_why_72
      · refine lv_iconst (v := iI (-1)) hx hb dX12_why_27 rfl ?_
        rw [← hQ]
        exact W.iret (v := iI (-1)) hx hb hr (fun t ht hW => ⟨⟨iI (-1), v, rfl, ⟨(-1), rfl, hI, fr_rf, by omega⟩, by rw [ht]; exact hP, va_K.moved hW.alike hK, hD⟩, hS.F ht⟩) hS.2.2 dX12_why_28
