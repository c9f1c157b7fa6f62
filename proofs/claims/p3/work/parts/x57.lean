set_option maxHeartbeats 2000000 in
set_option maxRecDepth 100000 in
theorem sX12_rowMayBeSet (l : Launch) (dC : Nat → ClassId) (dI : Nat → Nat → Nat) (sz : Nat) (L : List Nat) (cid : Nat → ClassId) (K : Int → Nat) (N : Int → Int) (tW : Nat) (sK sV : Nat → Nat) (v : Int → Int → Int) (p0 : Int) (hI : xI L K N v) (q0 : ok L K p0 12) : Met l yX12_rowMayBeSet (jk yX12_rowMayBeSet cX12_rowMayBeSet 3 (some .boolean)) ({ frames := 5, cells := 0, slots := 0, locals := 139 }) (va_Pc [.ref p0.toNat] (xP (dC, dI) (xG L cid K N v) (xT cid) tW sK sV sz)) (va_Qi (fun (r : Int32) (u : (Int → Int → Int)) => ∃ z : Int, r = iI z ∧ (xI L K N u) ∧ (fr K [(33, (-1)), (34, (-1))] u v) ∧ (0 ≤ z ∧ z ≤ 1)) (fun u t => va_P (dC, dI) vwCl (xG L cid K N u) t.heap ∧ va_K (dC, dI) vwCl (xT cid) t ∧ va_D (va_A (xG L cid K N v) sz) (xG L cid K N u)) (va_A (xG L cid K N v) sz)) 0 0 (va_A (xG L cid K N v) sz) := by
  refine Met.ofW (cc := cX12_rowMayBeSet) (maxL := 3) (ret := (some .boolean)) (by decide) rfl ?_
  intro p e s m args below meth c s₁ B hml hv
  obtain ⟨rfl, ⟨hsz, hP, hK, hD0⟩, hX⟩ := hv
  have hx := B.exec
  have hb := B.bytes
  have hr := B.returns
  have hts := atoms_spec (ws := (jk yX12_rowMayBeSet cX12_rowMayBeSet 3 (some .boolean))) B.pre
  have hj : ∀ w ∈ jw, w.before ([.ref p0.toNat] : List Value).toArray s = true := fun w h => hts w (jm h)
  have hown : s.vm.findClass RX12 = some m.cls := findClass_of_methodNamed B.named
  subst hsz
  have hD := hD0.self (sz := s.heap.size)
  generalize hAe : (va_A (xG L cid K N v) s.heap.size) = A at hD hX ⊢
  have hA : ∀ q : Nat, s.heap.size ≤ q → A q := fun q h => by rw [← hAe]; exact Or.inr h
  have hS : va_S A s.heap s.heap [] := va_S.rf
  have hXa := hX
  have hP : va_P (dC, dI) vwCl (xG L cid K N v) s.heap := hP
  have hl := lv_entry ([.ref p0.toNat]) (n := 3) (Nat.le_of_ble_eq_true rfl)
  rw [lg_entry_eq]
  generalize (lg_sl ([.ref p0.toNat]) ++ List.replicate (3 - (lg_sl ([.ref p0.toNat])).length) Slot.unset).toArray = ls at hl ⊢
  have hl : lv_has ls 3 [(0, .ref p0.toNat)] := hl
  generalize hQ : MQ below (va_Qi (fun (r : Int32) (u : (Int → Int → Int)) => ∃ z : Int, r = iI z ∧ (xI L K N u) ∧ (fr K [(33, (-1)), (34, (-1))] u v) ∧ (0 ≤ z ∧ z ≤ 1)) (fun u t => va_P (dC, dI) vwCl (xG L cid K N u) t.heap ∧ va_K (dC, dI) vwCl (xT cid) t ∧ va_D A (xG L cid K N u)) A) ([.ref p0.toNat] : List Value).toArray s 0 0 A = Q
  suffices ST : ∀ (H : Heap) (locs : List Loc), va_P (dC, dI) vwCl (xG L cid K N v) H → va_S A s.heap H locs → W p l e ({ frames := 5, cells := 0, slots := 0, locals := 139 }) s m ([.ref p0.toNat] : List Value).toArray below meth c H locs 0 0 Q (F0 m 0 ls []) from ST _ _ hP hS
  clear hP hS
  intro H locs hP hS
  refine lv_iconst (v := iI 0) hx hb dX12_rowMayBeSet_0 rfl ?_
  refine lv_istore_n (i := 1) (lv' := [(1, .int (iI 0)), (0, .ref p0.toNat)]) hx hb dX12_rowMayBeSet_1 rfl hl (by decide) rfl (fun ls hl => ?_)
  have L2 : ∀ (n2 : Nat) (a1_2 : Int) (vc2 : Int → Int → Int) (H : Heap) (locs : List Loc) (ls : Array Slot), (0 ≤ a1_2 ∧ a1_2 ≤ 2147483647) → (0 < (n2 : Int) ∧ (v p0 9) - a1_2 < (n2 : Int)) → fr K [(33, (-1)), (34, (-1))] vc2 v → xI L K N vc2 → va_P (dC, dI) vwCl (xG L cid K N vc2) H → va_D A (xG L cid K N vc2) → va_S A s.heap H locs → lv_has ls 3 [(1, .int (iI a1_2)), (0, .ref p0.toNat)] → W p l e ({ frames := 5, cells := 0, slots := 0, locals := 139 }) s m ([.ref p0.toNat] : List Value).toArray below meth c H locs 0 0 Q (F0 m 2 ls []) := by
    intro n2
    induction n2 with
    | zero =>
      intro a1_2 vc2 H locs ls h_1 hm2 f_2 I_3 hP hD hS hl
      exfalso; omega
    | succ n2 ih2 =>
      intro a1_2 vc2 H locs ls h_4 hm2 f_5 I_6 hP hD hS hl
      refine lv_iload_n hx hb dX12_rowMayBeSet_2 rfl (lv_at hl 0 rfl) ?_
      refine lv_aload_n hx hb dX12_rowMayBeSet_3 rfl (lv_at hl 1 rfl) ?_
      have h_7 : 0 ≤ v p0 9 ∧ v p0 9 ≤ 60 := xf_12_9 hI q0
      refine gx_RX12_268 (y := v p0 9) hx hb hj hown hK hP q0 (fr_use q0 f_5 rfl) dX12_rowMayBeSet_4 ?_
      refine xr_icmp_ge (tgt := 66) hx hb dX12_rowMayBeSet_7 (by decide) (by omega) (by omega) (fun h_8 => ?_) (fun h_8 => ?_)
      · refine lv_iconst (v := iI 1) hx hb dX12_rowMayBeSet_66 rfl ?_
        rw [← hQ]
        exact W.zret (v := iI 1) (ty := .boolean) hx hb hr (nb_bool (by omega) (by omega)) (fun t ht hW => ⟨⟨iI 1, vc2, rfl, ⟨1, rfl, I_6, (fr_tr f_5 rfl fr_rf), by omega⟩, by rw [ht]; exact hP, va_K.moved hW.alike hK, hD⟩, hS.F ht⟩) hS.2.2 dX12_rowMayBeSet_67
      · refine lv_aload_n hx hb dX12_rowMayBeSet_10 rfl (lv_at hl 1 rfl) ?_
        refine lv_iload_n hx hb dX12_rowMayBeSet_11 rfl (lv_at hl 0 rfl) ?_
        refine jc_q (va_runV (As := [.int (iI a1_2)]) (rest := []) ⟨hx, hb, hml, hown, hts⟩ (sX12_inRow l dC dI _ L cid K N tW sK sV vc2 p0 a1_2 I_6 q0 (by omega)) (cwV 1 hts (jgoodV m_1149 m_1150 m_1151 m_873 m_1152) rfl rfl rfl (by decide +kernel) ⟨(Nat.le_of_ble_eq_true rfl), (Nat.le_of_ble_eq_true rfl)⟩) ⟨xP_blind, xrecv hK hP q0 rfl rfl, fun U hU hW => ⟨rfl, xP_of hU hW hP hK hD hX hS (fun _ h => h) hA⟩⟩ rfl rfl hl.1 rfl (lv_room (Nat.le_of_ble_eq_true rfl)) dX12_rowMayBeSet_12 ⟨(Nat.le_of_ble_eq_true rfl), (Nat.le_of_ble_eq_true rfl)⟩) hP hS hA (fun r_9 H locs w_10 hP hS => ?_)
        obtain ⟨z_11, rfl, h_12⟩ := w_10
        refine jt_q (rv z_11) rfl ?_
        refine xq_astore_n (i := 2) (lv' := [(2, rv z_11), (1, .int (iI a1_2)), (0, .ref p0.toNat)]) hx hb dX12_rowMayBeSet_15 rfl hl (by decide) rfl (fun ls hl => ?_)
        refine xq_aload_n hx hb dX12_rowMayBeSet_16 rfl (lv_at hl 0 rfl) ?_
        have J60 : ∀ (vc60 : Int → Int → Int) (H : Heap) (locs : List Loc) (ls : Array Slot), fr K [(33, (-1)), (34, (-1))] vc60 vc2 → xI L K N vc60 → va_P (dC, dI) vwCl (xG L cid K N vc60) H → va_D A (xG L cid K N vc60) → va_S A s.heap H locs → lv_has ls 3 [(2, rv z_11), (1, .int (iI a1_2)), (0, .ref p0.toNat)] → W p l e ({ frames := 5, cells := 0, slots := 0, locals := 139 }) s m ([.ref p0.toNat] : List Value).toArray below meth c H locs 0 0 Q (F0 m 60 ls []) := by
          intro vc60 H locs ls f_13 I_14 hP hD hS hl
          refine lv_iinc (v := iI (a1_2 + 1)) (lv' := [(1, .int (iI (a1_2 + 1))), (2, rv z_11), (0, .ref p0.toNat)]) hx hb dX12_rowMayBeSet_60 hl (k := 1) rfl (iI_add _ _) (by decide) rfl (fun ls hl => ?_)
          refine lv_goto (tgt := 2) hx hb dX12_rowMayBeSet_63 (by decide) ?_
          exact ih2 (a1_2 + 1) vc60 H locs ls (by omega) (by omega) (fr_tr f_13 rfl (fr_tr f_5 rfl fr_rf)) I_14 hP hD hS (lv_sub hl [0, 2] rfl)
        refine xq_ifnull (tgt := 60) hx hb dX12_rowMayBeSet_17 (by decide) (fun h_15 => ?_) (fun h_15 => ?_)
        · exact J60 vc2 H locs ls fr_rf I_6 hP hD hS hl
        · have h_16 : ok L K z_11 0 := h_12.resolve_left (by omega)
          refine xq_aload_n hx hb dX12_rowMayBeSet_20 rfl (lv_at hl 0 rfl) ?_
          refine jt_q (.ref z_11.toNat) (rv_ref (h_16).1) ?_
          have h_17 : (-2147483648) ≤ v z_11 1 ∧ v z_11 1 ≤ 2147483647 := xf_0_1 hI h_16
          refine gx_RX12_240 (y := v z_11 1) hx hb hj hown hK hP h_16 (fr_use h_16 f_5 rfl) dX12_rowMayBeSet_21 ?_
          refine xr_if_ne (tgt := 60) hx hb dX12_rowMayBeSet_24 (by decide) (by omega) (fun h_18 => ?_) (fun h_18 => ?_)
          · exact J60 vc2 H locs ls fr_rf I_6 hP hD hS hl
          · refine lv_aload_n hx hb dX12_rowMayBeSet_27 rfl (lv_at hl 2 rfl) ?_
            refine xq_aload_n hx hb dX12_rowMayBeSet_28 rfl (lv_at hl 0 rfl) ?_
            refine jt_q (.ref z_11.toNat) (rv_ref (h_16).1) ?_
            refine jc_i (va_runV (As := [.ref z_11.toNat]) (rest := []) ⟨hx, hb, hml, hown, hts⟩ (sX12_isStruck l dC dI _ L cid K N tW sK sV vc2 p0 z_11 I_6 q0 h_16) (cwV 1 hts (jgoodV m_1060 m_1061 m_1062 m_873 m_1063) rfl rfl rfl (by decide +kernel) ⟨(Nat.le_of_ble_eq_true rfl), (Nat.le_of_ble_eq_true rfl)⟩) ⟨xP_blind, xrecv hK hP q0 rfl rfl, fun U hU hW => ⟨rfl, xP_of hU hW hP hK hD hX hS (fun _ h => h) hA⟩⟩ rfl rfl hl.1 rfl (lv_room (Nat.le_of_ble_eq_true rfl)) dX12_rowMayBeSet_29 ⟨(Nat.le_of_ble_eq_true rfl), (Nat.le_of_ble_eq_true rfl)⟩) hP hS hA (fun r_19 H locs w_20 hP hS => ?_)
            obtain ⟨z_21, rfl, h_22⟩ := w_20
            refine xr_if_eq (tgt := 38) hx hb dX12_rowMayBeSet_32 (by decide) (by omega) (fun h_23 => ?_) (fun h_23 => ?_)
            · refine xq_aload_n hx hb dX12_rowMayBeSet_38 rfl (lv_at hl 0 rfl) ?_
              refine jt_q (.ref z_11.toNat) (rv_ref (h_16).1) ?_
              refine jc_i (va_runV (As := []) (rest := []) ⟨hx, hb, hml, hown, hts⟩ (sX0_isDone l dC dI _ L cid K N tW sK sV vc2 z_11 I_6 h_16) (cwV 0 hts (jgoodV m_1097 m_1098 m_1099 m_666 m_1100) rfl rfl rfl (by decide +kernel) ⟨(Nat.le_of_ble_eq_true rfl), (Nat.le_of_ble_eq_true rfl)⟩) ⟨xP_blind, xrecv hK hP h_16 rfl rfl, fun U hU hW => ⟨rfl, xP_of hU hW hP hK hD hX hS (fun _ h => h) hA⟩⟩ rfl rfl hl.1 rfl (lv_room (Nat.le_of_ble_eq_true rfl)) dX12_rowMayBeSet_39 ⟨(Nat.le_of_ble_eq_true rfl), (Nat.le_of_ble_eq_true rfl)⟩) hP hS hA (fun r_24 H locs w_25 hP hS => ?_)
              obtain ⟨z_26, rfl, h_27, h_28⟩ := w_25
              have b_29 : vc2 z_11 15 = v z_11 15 := (fr_use h_16 f_5 rfl)
              have h_30 : 0 ≤ v z_11 15 ∧ v z_11 15 ≤ 200 := xf_0_15 hI h_16
              have b_31 : vc2 z_11 9 = v z_11 9 := (fr_use h_16 f_5 rfl)
              have h_32 : 0 ≤ v z_11 9 ∧ v z_11 9 ≤ 200 := xf_0_9 hI h_16
              refine xr_if_eq (tgt := 58) hx hb dX12_rowMayBeSet_42 (by decide) (by omega) (fun h_33 => ?_) (fun h_33 => ?_)
              · refine lv_iconst (v := iI 0) hx hb dX12_rowMayBeSet_58 rfl ?_
                rw [← hQ]
                exact W.zret (v := iI 0) (ty := .boolean) hx hb hr (nb_bool (by omega) (by omega)) (fun t ht hW => ⟨⟨iI 0, vc2, rfl, ⟨0, rfl, I_6, (fr_tr f_5 rfl fr_rf), by omega⟩, by rw [ht]; exact hP, va_K.moved hW.alike hK, hD⟩, hS.F ht⟩) hS.2.2 dX12_rowMayBeSet_59
              · refine lv_aload_n hx hb dX12_rowMayBeSet_45 rfl (lv_at hl 2 rfl) ?_
                refine lv_iconst (v := iI 3) hx hb dX12_rowMayBeSet_46 rfl ?_
                refine xq_aload_n hx hb dX12_rowMayBeSet_47 rfl (lv_at hl 0 rfl) ?_
                refine jt_q (.ref z_11.toNat) (rv_ref (h_16).1) ?_
                refine xq_aload_n hx hb dX12_rowMayBeSet_48 rfl (lv_at hl 0 rfl) ?_
                refine jt_q (.ref z_11.toNat) (rv_ref (h_16).1) ?_
                have h_34 : (-2147483648) ≤ v z_11 14 ∧ v z_11 14 ≤ 2147483647 := xf_0_14 hI h_16
                refine gx_RX12_313 (y := v z_11 14) hx hb hj hown hK hP h_16 (fr_use h_16 f_5 rfl) dX12_rowMayBeSet_49 ?_
                refine jcg_i (va_runV (As := [.int (iI 3), .ref z_11.toNat, .int (iI (v z_11 14))]) (rest := []) ⟨hx, hb, hml, hown, hts⟩ (sX12_valueFor l dC dI _ L cid K N tW sK sV vc2 p0 3 z_11 (v z_11 14) I_6 q0 (by omega) h_16 (by omega)) (cwV 3 hts (jgoodV m_1093 m_1094 m_1095 m_873 m_1096) rfl rfl rfl (by decide +kernel) ⟨(Nat.le_of_ble_eq_true rfl), (Nat.le_of_ble_eq_true rfl)⟩) ⟨xP_blind, xrecv hK hP q0 rfl rfl, fun U hU hW => ⟨rfl, xP_of hU hW hP hK hD hX hS (fun _ h => h) hA⟩⟩ rfl rfl hl.1 rfl (lv_room (Nat.le_of_ble_eq_true rfl)) dX12_rowMayBeSet_52 ⟨(Nat.le_of_ble_eq_true rfl), (Nat.le_of_ble_eq_true rfl)⟩) hD hS hA (fun r_35 v_39 H locs w_36 hP hK hD hS => ?_)
                obtain ⟨z_37, rfl, I_41, f_40, h_38⟩ := w_36
                have hP : va_P (dC, dI) vwCl (xG L cid K N v_39) H := hP
                have hD : va_D A (xG L cid K N v_39) := hD
                refine xr_if_ne (tgt := 60) hx hb dX12_rowMayBeSet_55 (by decide) (by omega) (fun h_42 => ?_) (fun h_42 => ?_)
                · exact J60 v_39 H locs ls (fr_tr f_40 rfl fr_rf) I_41 hP hD hS hl
                · refine lv_iconst (v := iI 0) hx hb dX12_rowMayBeSet_58 rfl ?_
                  rw [← hQ]
                  exact W.zret (v := iI 0) (ty := .boolean) hx hb hr (nb_bool (by omega) (by omega)) (fun t ht hW => ⟨⟨iI 0, v_39, rfl, ⟨0, rfl, I_41, (fr_tr f_40 rfl (fr_tr f_5 rfl fr_rf)), by omega⟩, by rw [ht]; exact hP, va_K.moved hW.alike hK, hD⟩, hS.F ht⟩) hS.2.2 dX12_rowMayBeSet_59
            · refine lv_goto (tgt := 60) hx hb dX12_rowMayBeSet_35 (by decide) ?_
              exact J60 vc2 H locs ls fr_rf I_6 hP hD hS hl
  exact L2 ((((v p0 9) - 0 : Int)).toNat + 1) 0 v H locs ls (by omega) (by omega) fr_rf hI hP hD hS hl
set_option maxHeartbeats 2000000 in
set_option maxRecDepth 100000 in
theorem sX12_linesInRow (l : Launch) (dC : Nat → ClassId) (dI : Nat → Nat → Nat) (sz : Nat) (L : List Nat) (cid : Nat → ClassId) (K : Int → Nat) (N : Int → Int) (tW : Nat) (sK sV : Nat → Nat) (v : Int → Int → Int) (p0 : Int) (hI : xI L K N v) (q0 : ok L K p0 12) : Met l yX12_linesInRow (jk yX12_linesInRow cX12_linesInRow 4 (some .int)) ({ frames := 2, cells := 0, slots := 0, locals := 42 }) (va_Pc [.ref p0.toNat] (xP (dC, dI) (xG L cid K N v) (xT cid) tW sK sV sz)) (va_Qi (fun (r : Int32) (_ : Unit) => ∃ z : Int, r = iI z ∧ (0 ≤ z ∧ z ≤ 12000)) (fun _ _ => True) (va_A [] sz)) 0 0 (va_A [] sz) := by
  refine Met.ofW (cc := cX12_linesInRow) (maxL := 4) (ret := (some .int)) (by decide) rfl ?_
  intro p e s m args below meth c s₁ B hml hv
  obtain ⟨rfl, ⟨hsz, hP, hK, hD0⟩, hX⟩ := hv
  have hx := B.exec
  have hb := B.bytes
  have hr := B.returns
  have hts := atoms_spec (ws := (jk yX12_linesInRow cX12_linesInRow 4 (some .int))) B.pre
  have hj : ∀ w ∈ jw, w.before ([.ref p0.toNat] : List Value).toArray s = true := fun w h => hts w (jm h)
  have hown : s.vm.findClass RX12 = some m.cls := findClass_of_methodNamed B.named
  subst hsz
  have hDw := hD0.self (sz := s.heap.size)
  have hAA : ∀ q : Nat, s.heap.size ≤ q → va_A (xG L cid K N v) s.heap.size q := fun q h => Or.inr h
  have hAw : ∀ q, va_A [] s.heap.size q → va_A (xG L cid K N v) s.heap.size q := ja_nil va_S.rf hAA
  generalize hAe : (va_A [] s.heap.size) = A at hAw ⊢
  have hA : ∀ q : Nat, s.heap.size ≤ q → A q := fun q h => by rw [← hAe]; exact Or.inr h
  have hS : va_S A s.heap s.heap [] := va_S.rf
  have hXa := hX.nar hAw
  have hP : va_P (dC, dI) vwCl (xG L cid K N v) s.heap := hP
  have hl := lv_entry ([.ref p0.toNat]) (n := 4) (Nat.le_of_ble_eq_true rfl)
  rw [lg_entry_eq]
  generalize (lg_sl ([.ref p0.toNat]) ++ List.replicate (4 - (lg_sl ([.ref p0.toNat])).length) Slot.unset).toArray = ls at hl ⊢
  have hl : lv_has ls 4 [(0, .ref p0.toNat)] := hl
  generalize hQ : MQ below (va_Qi (fun (r : Int32) (_ : Unit) => ∃ z : Int, r = iI z ∧ (0 ≤ z ∧ z ≤ 12000)) (fun _ _ => True) A) ([.ref p0.toNat] : List Value).toArray s 0 0 A = Q
  suffices ST : ∀ (H : Heap) (locs : List Loc), va_P (dC, dI) vwCl (xG L cid K N v) H → va_S A s.heap H locs → W p l e ({ frames := 2, cells := 0, slots := 0, locals := 42 }) s m ([.ref p0.toNat] : List Value).toArray below meth c H locs 0 0 Q (F0 m 0 ls []) from ST _ _ hP hS
  clear hP hS
  intro H locs hP hS
  refine lv_iconst (v := iI 0) hx hb dX12_linesInRow_0 rfl ?_
  refine lv_istore_n (i := 1) (lv' := [(1, .int (iI 0)), (0, .ref p0.toNat)]) hx hb dX12_linesInRow_1 rfl hl (by decide) rfl (fun ls hl => ?_)
  refine lv_iconst (v := iI 0) hx hb dX12_linesInRow_2 rfl ?_
  refine lv_istore_n (i := 2) (lv' := [(2, .int (iI 0)), (1, .int (iI 0)), (0, .ref p0.toNat)]) hx hb dX12_linesInRow_3 rfl hl (by decide) rfl (fun ls hl => ?_)
  have L4 : ∀ (n4 : Nat) (a2_4 a1_4 : Int) (H : Heap) (locs : List Loc) (ls : Array Slot), (0 ≤ a2_4 ∧ a2_4 ≤ 2147483647) → ((-2147483648) ≤ a1_4 ∧ a1_4 ≤ 2147483647) → (0 ≤ a1_4 ∧ a1_4 ≤ 200 * a2_4) → (a2_4 ≤ 60) → (0 < (n4 : Int) ∧ (v p0 9) - a2_4 < (n4 : Int)) → va_P (dC, dI) vwCl (xG L cid K N v) H → va_S A s.heap H locs → lv_has ls 4 [(2, .int (iI a2_4)), (1, .int (iI a1_4)), (0, .ref p0.toNat)] → W p l e ({ frames := 2, cells := 0, slots := 0, locals := 42 }) s m ([.ref p0.toNat] : List Value).toArray below meth c H locs 0 0 Q (F0 m 4 ls []) := by
    intro n4
    induction n4 with
    | zero =>
      intro a2_4 a1_4 H locs ls h_1 h_2 h_3 h_4 hm4 hP hS hl
      exfalso; omega
    | succ n4 ih4 =>
      intro a2_4 a1_4 H locs ls h_5 h_6 h_7 h_8 hm4 hP hS hl
      refine lv_iload_n hx hb dX12_linesInRow_4 rfl (lv_at hl 0 rfl) ?_
      refine lv_aload_n hx hb dX12_linesInRow_5 rfl (lv_at hl 2 rfl) ?_
      have h_9 : 0 ≤ v p0 9 ∧ v p0 9 ≤ 60 := xf_12_9 hI q0
      refine gx_RX12_268 (y := v p0 9) hx hb hj hown hK hP q0 rfl dX12_linesInRow_6 ?_
      refine xr_icmp_ge (tgt := 43) hx hb dX12_linesInRow_9 (by decide) (by omega) (by omega) (fun h_10 => ?_) (fun h_10 => ?_)
      · refine lv_iload_n hx hb dX12_linesInRow_43 rfl (lv_at hl 1 rfl) ?_
        rw [← hQ]
        exact W.iret (v := iI a1_4) hx hb hr (fun t ht hW => ⟨⟨iI a1_4, (), rfl, ⟨a1_4, rfl, by omega⟩, trivial⟩, hS.F ht⟩) hS.2.2 dX12_linesInRow_44
      · refine lv_aload_n hx hb dX12_linesInRow_12 rfl (lv_at hl 2 rfl) ?_
        refine lv_iload_n hx hb dX12_linesInRow_13 rfl (lv_at hl 0 rfl) ?_
        refine jc_q (va_runV (As := [.int (iI a2_4)]) (rest := []) ⟨hx, hb, hml, hown, hts⟩ (sX12_inRow l dC dI _ L cid K N tW sK sV v p0 a2_4 hI q0 (by omega)) (cwV 1 hts (jgoodV m_1149 m_1150 m_1151 m_873 m_1152) rfl rfl rfl (by decide +kernel) ⟨(Nat.le_of_ble_eq_true rfl), (Nat.le_of_ble_eq_true rfl)⟩) ⟨xP_blind, xrecv hK hP q0 rfl rfl, fun U hU hW => ⟨rfl, xP_of hU hW hP hK hDw hX hS hAw hAA⟩⟩ rfl rfl hl.1 rfl (lv_room (Nat.le_of_ble_eq_true rfl)) dX12_linesInRow_14 ⟨(Nat.le_of_ble_eq_true rfl), (Nat.le_of_ble_eq_true rfl)⟩) hP hS hA (fun r_11 H locs w_12 hP hS => ?_)
        obtain ⟨z_13, rfl, h_14⟩ := w_12
        refine jt_q (rv z_13) rfl ?_
        refine xq_astore_n (i := 3) (lv' := [(3, rv z_13), (2, .int (iI a2_4)), (1, .int (iI a1_4)), (0, .ref p0.toNat)]) hx hb dX12_linesInRow_17 rfl hl (by decide) rfl (fun ls hl => ?_)
        refine xq_aload_n hx hb dX12_linesInRow_18 rfl (lv_at hl 0 rfl) ?_
        have J37 : ∀ (a1_37 : Int) (H : Heap) (locs : List Loc) (ls : Array Slot), ((-2147483648) ≤ a1_37 ∧ a1_37 ≤ 2147483647) → (0 ≤ a1_37 ∧ a1_37 ≤ 200 * a2_4 + 200) → va_P (dC, dI) vwCl (xG L cid K N v) H → va_S A s.heap H locs → lv_has ls 4 [(3, rv z_13), (2, .int (iI a2_4)), (1, .int (iI a1_37)), (0, .ref p0.toNat)] → W p l e ({ frames := 2, cells := 0, slots := 0, locals := 42 }) s m ([.ref p0.toNat] : List Value).toArray below meth c H locs 0 0 Q (F0 m 37 ls []) := by
          intro a1_37 H locs ls h_15 h_16 hP hS hl
          refine lv_iinc (v := iI (a2_4 + 1)) (lv' := [(2, .int (iI (a2_4 + 1))), (3, rv z_13), (1, .int (iI a1_37)), (0, .ref p0.toNat)]) hx hb dX12_linesInRow_37 hl (k := 1) rfl (iI_add _ _) (by decide) rfl (fun ls hl => ?_)
          refine lv_goto (tgt := 4) hx hb dX12_linesInRow_40 (by decide) ?_
          exact ih4 (a2_4 + 1) a1_37 H locs ls (by omega) (by omega) (by omega) (by omega) (by omega) hP hS (lv_sub hl [0, 2, 3] rfl)
        refine xq_ifnull (tgt := 37) hx hb dX12_linesInRow_19 (by decide) (fun h_17 => ?_) (fun h_17 => ?_)
        · exact J37 a1_4 H locs ls (by omega) (by omega) hP hS hl
        · have h_18 : ok L K z_13 0 := h_14.resolve_left (by omega)
          refine lv_aload_n hx hb dX12_linesInRow_22 rfl (lv_at hl 3 rfl) ?_
          refine xq_aload_n hx hb dX12_linesInRow_23 rfl (lv_at hl 0 rfl) ?_
          refine jt_q (.ref z_13.toNat) (rv_ref (h_18).1) ?_
          refine jc_i (va_runV (As := [.ref z_13.toNat]) (rest := []) ⟨hx, hb, hml, hown, hts⟩ (sX12_isStruck l dC dI _ L cid K N tW sK sV v p0 z_13 hI q0 h_18) (cwV 1 hts (jgoodV m_1060 m_1061 m_1062 m_873 m_1063) rfl rfl rfl (by decide +kernel) ⟨(Nat.le_of_ble_eq_true rfl), (Nat.le_of_ble_eq_true rfl)⟩) ⟨xP_blind, xrecv hK hP q0 rfl rfl, fun U hU hW => ⟨rfl, xP_of hU hW hP hK hDw hX hS hAw hAA⟩⟩ rfl rfl hl.1 rfl (lv_room (Nat.le_of_ble_eq_true rfl)) dX12_linesInRow_24 ⟨(Nat.le_of_ble_eq_true rfl), (Nat.le_of_ble_eq_true rfl)⟩) hP hS hA (fun r_19 H locs w_20 hP hS => ?_)
          obtain ⟨z_21, rfl, h_22⟩ := w_20
          refine xr_if_ne (tgt := 37) hx hb dX12_linesInRow_27 (by decide) (by omega) (fun h_23 => ?_) (fun h_23 => ?_)
          · exact J37 a1_4 H locs ls (by omega) (by omega) hP hS hl
          · refine lv_iload_n hx hb dX12_linesInRow_30 rfl (lv_at hl 2 rfl) ?_
            refine xq_aload_n hx hb dX12_linesInRow_31 rfl (lv_at hl 0 rfl) ?_
            refine jt_q (.ref z_13.toNat) (rv_ref (h_18).1) ?_
            have h_24 : 0 ≤ v z_13 15 ∧ v z_13 15 ≤ 200 := xf_0_15 hI h_18
            refine gx_RX12_342 (y := v z_13 15) hx hb hj hown hK hP h_18 rfl dX12_linesInRow_32 ?_
            refine xr_add hx hb dX12_linesInRow_35 ?_
            refine xr_kept (fun z_25 h_26 h_27 => ?_)
            refine lv_istore_n (i := 1) (lv' := [(1, .int (iI z_25)), (3, rv z_13), (2, .int (iI a2_4)), (0, .ref p0.toNat)]) hx hb dX12_linesInRow_36 rfl hl (by decide) rfl (fun ls hl => ?_)
            exact J37 z_25 H locs ls (by omega) (by omega) hP hS (lv_sub hl [1, 2, 0, 3] rfl)
  exact L4 ((((v p0 9) - 0 : Int)).toNat + 1) 0 0 H locs ls (by omega) (by omega) (by omega) (by omega) (by omega) hP hS hl
set_option maxHeartbeats 2000000 in
set_option maxRecDepth 100000 in
theorem sX12_layLines (l : Launch) (dC : Nat → ClassId) (dI : Nat → Nat → Nat) (sz : Nat) (L : List Nat) (cid : Nat → ClassId) (K : Int → Nat) (N : Int → Int) (tW : Nat) (sK sV : Nat → Nat) (v : Int → Int → Int) (p0 : Int) (p1 : Int) (p2 : Int) (hI : xI L K N v) (q0 : ok L K p0 12) (q1 : ok L K p1 11) (q2 : ok L K p2 0) : Met l yX12_layLines (jk yX12_layLines cX12_layLines 6 none) ({ frames := 1, cells := 0, slots := 0, locals := 21 }) (va_Pc [.ref p0.toNat, .ref p1.toNat, .ref p2.toNat] (xP (dC, dI) (xG L cid K N v) (xT cid) tW sK sV sz)) (va_Qv (fun (u : (Int → Int → Int)) => (xI L K N u) ∧ (fr K [(4, 7), (11, 4), (64, (-1))] u v)) (fun u t => va_P (dC, dI) vwCl (xG L cid K N u) t.heap ∧ va_K (dC, dI) vwCl (xT cid) t ∧ va_D (va_A (xG L cid K N v) sz) (xG L cid K N u)) (va_A (xG L cid K N v) sz)) 0 0 (va_A (xG L cid K N v) sz) := by
  refine Met.ofW (cc := cX12_layLines) (maxL := 6) (ret := none) (by decide) rfl ?_
  intro p e s m args below meth c s₁ B hml hv
  obtain ⟨rfl, ⟨hsz, hP, hK, hD0⟩, hX⟩ := hv
  have hx := B.exec
  have hb := B.bytes
  have hr := B.returns
  have hts := atoms_spec (ws := (jk yX12_layLines cX12_layLines 6 none)) B.pre
  have hj : ∀ w ∈ jw, w.before ([.ref p0.toNat, .ref p1.toNat, .ref p2.toNat] : List Value).toArray s = true := fun w h => hts w (jm h)
  have hown : s.vm.findClass RX12 = some m.cls := findClass_of_methodNamed B.named
  subst hsz
  have hD := hD0.self (sz := s.heap.size)
  generalize hAe : (va_A (xG L cid K N v) s.heap.size) = A at hD hX ⊢
  have hA : ∀ q : Nat, s.heap.size ≤ q → A q := fun q h => by rw [← hAe]; exact Or.inr h
  have hS : va_S A s.heap s.heap [] := va_S.rf
  have hXa := hX
  have hP : va_P (dC, dI) vwCl (xG L cid K N v) s.heap := hP
  have hl := lv_entry ([.ref p0.toNat, .ref p1.toNat, .ref p2.toNat]) (n := 6) (Nat.le_of_ble_eq_true rfl)
  rw [lg_entry_eq]
  generalize (lg_sl ([.ref p0.toNat, .ref p1.toNat, .ref p2.toNat]) ++ List.replicate (6 - (lg_sl ([.ref p0.toNat, .ref p1.toNat, .ref p2.toNat])).length) Slot.unset).toArray = ls at hl ⊢
  have hl : lv_has ls 6 [(0, .ref p0.toNat), (1, .ref p1.toNat), (2, .ref p2.toNat)] := hl
  generalize hQ : MQ below (va_Qv (fun (u : (Int → Int → Int)) => (xI L K N u) ∧ (fr K [(4, 7), (11, 4), (64, (-1))] u v)) (fun u t => va_P (dC, dI) vwCl (xG L cid K N u) t.heap ∧ va_K (dC, dI) vwCl (xT cid) t ∧ va_D A (xG L cid K N u)) A) ([.ref p0.toNat, .ref p1.toNat, .ref p2.toNat] : List Value).toArray s 0 0 A = Q
  suffices ST : ∀ (H : Heap) (locs : List Loc), va_P (dC, dI) vwCl (xG L cid K N v) H → va_S A s.heap H locs → W p l e ({ frames := 1, cells := 0, slots := 0, locals := 21 }) s m ([.ref p0.toNat, .ref p1.toNat, .ref p2.toNat] : List Value).toArray below meth c H locs 0 0 Q (F0 m 0 ls []) from ST _ _ hP hS
  clear hP hS
  intro H locs hP hS
  refine lv_aload_n hx hb dX12_layLines_0 rfl (lv_at hl 2 rfl) ?_
  have h_1 : (-2147483648) ≤ v p2 13 ∧ v p2 13 ≤ 2147483647 := xf_0_13 hI q2
  refine gx_RX12_468 (y := v p2 13) hx hb hj hown hK hP q2 rfl dX12_layLines_1 ?_
  refine lv_istore_n (i := 3) (lv' := [(3, .int (iI (v p2 13))), (0, .ref p0.toNat), (1, .ref p1.toNat), (2, .ref p2.toNat)]) hx hb dX12_layLines_4 rfl hl (by decide) rfl (fun ls hl => ?_)
  refine lv_iconst (v := iI 0) hx hb dX12_layLines_5 rfl ?_
  refine lv_istore (i := 4) (lv' := [(4, .int (iI 0)), (3, .int (iI (v p2 13))), (0, .ref p0.toNat), (1, .ref p1.toNat), (2, .ref p2.toNat)]) hx hb dX12_layLines_6 hl (by decide) rfl (fun ls hl => ?_)
  have L8 : ∀ (n8 : Nat) (a4_8 a3_8 : Int) (vc8 : Int → Int → Int) (H : Heap) (locs : List Loc) (ls : Array Slot), (0 ≤ a4_8 ∧ a4_8 ≤ 2147483647) → ((-2147483648) ≤ a3_8 ∧ a3_8 ≤ 2147483647) → (0 < (n8 : Int) ∧ (v p0 13) - a4_8 < (n8 : Int)) → fr K [(4, 7), (11, 4), (64, (-1))] vc8 v → xI L K N vc8 → va_P (dC, dI) vwCl (xG L cid K N vc8) H → va_D A (xG L cid K N vc8) → va_S A s.heap H locs → lv_has ls 6 [(4, .int (iI a4_8)), (3, .int (iI a3_8)), (0, .ref p0.toNat), (1, .ref p1.toNat), (2, .ref p2.toNat)] → W p l e ({ frames := 1, cells := 0, slots := 0, locals := 21 }) s m ([.ref p0.toNat, .ref p1.toNat, .ref p2.toNat] : List Value).toArray below meth c H locs 0 0 Q (F0 m 8 ls []) := by
    intro n8
    induction n8 with
    | zero =>
      intro a4_8 a3_8 vc8 H locs ls h_2 h_3 hm8 f_4 I_5 hP hD hS hl
      exfalso; omega
    | succ n8 ih8 =>
      intro a4_8 a3_8 vc8 H locs ls h_6 h_7 hm8 f_8 I_9 hP hD hS hl
      refine lv_iload hx hb dX12_layLines_8 (lv_at hl 0 rfl) ?_
      refine lv_aload_n hx hb dX12_layLines_10 rfl (lv_at hl 2 rfl) ?_
      have h_10 : 0 ≤ v p0 13 ∧ v p0 13 ≤ 300 := xf_12_13 hI q0
      refine gx_RX12_370 (y := v p0 13) hx hb hj hown hK hP q0 (fr_use q0 f_8 rfl) dX12_layLines_11 ?_
      refine xr_icmp_ge (tgt := 63) hx hb dX12_layLines_14 (by decide) (by omega) (by omega) (fun h_11 => ?_) (fun h_11 => ?_)
      · rw [← hQ]
        exact W.vret hx hb hr (fun t ht hW => ⟨⟨vc8, rfl, ⟨I_9, (fr_tr f_8 rfl fr_rf)⟩, by rw [ht]; exact hP, va_K.moved hW.alike hK, hD⟩, hS.F ht⟩) hS.2.2 dX12_layLines_63
      · refine lv_aload_n hx hb dX12_layLines_17 rfl (lv_at hl 2 rfl) ?_
        refine lv_iload hx hb dX12_layLines_18 (lv_at hl 0 rfl) ?_
        refine jc_q (va_runV (As := [.int (iI a4_8)]) (rest := []) ⟨hx, hb, hml, hown, hts⟩ (sX12_lineAt l dC dI _ L cid K N tW sK sV vc8 p0 a4_8 I_9 q0 (by omega)) (cwV 1 hts (jgoodV m_1109 m_1110 m_1111 m_873 m_1112) rfl rfl rfl (by decide +kernel) ⟨(Nat.le_of_ble_eq_true rfl), (Nat.le_of_ble_eq_true rfl)⟩) ⟨xP_blind, xrecv hK hP q0 rfl rfl, fun U hU hW => ⟨rfl, xP_of hU hW hP hK hD hX hS (fun _ h => h) hA⟩⟩ rfl rfl hl.1 rfl (lv_room (Nat.le_of_ble_eq_true rfl)) dX12_layLines_20 ⟨(Nat.le_of_ble_eq_true rfl), (Nat.le_of_ble_eq_true rfl)⟩) hP hS hA (fun r_12 H locs w_13 hP hS => ?_)
        obtain ⟨z_14, rfl, h_15⟩ := w_13
        refine jt_q (rv z_14) rfl ?_
        refine xq_astore (i := 5) (lv' := [(5, rv z_14), (4, .int (iI a4_8)), (3, .int (iI a3_8)), (0, .ref p0.toNat), (1, .ref p1.toNat), (2, .ref p2.toNat)]) hx hb dX12_layLines_23 hl (by decide) rfl (fun ls hl => ?_)
        refine xq_aload hx hb dX12_layLines_25 (lv_at hl 0 rfl) ?_
        have J57 : ∀ (a3_57 : Int) (vc57 : Int → Int → Int) (H : Heap) (locs : List Loc) (ls : Array Slot), ((-2147483648) ≤ a3_57 ∧ a3_57 ≤ 2147483647) → fr K [(4, 7), (11, 4), (64, (-1))] vc57 vc8 → xI L K N vc57 → va_P (dC, dI) vwCl (xG L cid K N vc57) H → va_D A (xG L cid K N vc57) → va_S A s.heap H locs → lv_has ls 6 [(5, rv z_14), (4, .int (iI a4_8)), (3, .int (iI a3_57)), (0, .ref p0.toNat), (1, .ref p1.toNat), (2, .ref p2.toNat)] → W p l e ({ frames := 1, cells := 0, slots := 0, locals := 21 }) s m ([.ref p0.toNat, .ref p1.toNat, .ref p2.toNat] : List Value).toArray below meth c H locs 0 0 Q (F0 m 57 ls []) := by
          intro a3_57 vc57 H locs ls h_16 f_17 I_18 hP hD hS hl
          refine lv_iinc (v := iI (a4_8 + 1)) (lv' := [(4, .int (iI (a4_8 + 1))), (5, rv z_14), (3, .int (iI a3_57)), (0, .ref p0.toNat), (1, .ref p1.toNat), (2, .ref p2.toNat)]) hx hb dX12_layLines_57 hl (k := 1) rfl (iI_add _ _) (by decide) rfl (fun ls hl => ?_)
          refine lv_goto (tgt := 8) hx hb dX12_layLines_60 (by decide) ?_
          exact ih8 (a4_8 + 1) a3_57 vc57 H locs ls (by omega) (by omega) (by omega) (fr_tr f_17 rfl (fr_tr f_8 rfl fr_rf)) I_18 hP hD hS (lv_sub hl [0, 2, 3, 4, 5] rfl)
        refine xq_ifnull (tgt := 57) hx hb dX12_layLines_27 (by decide) (fun h_19 => ?_) (fun h_19 => ?_)
        · exact J57 a3_8 vc8 H locs ls (by omega) fr_rf I_9 hP hD hS hl
        · have h_20 : ok L K z_14 4 := h_15.resolve_left (by omega)
          refine xq_aload hx hb dX12_layLines_30 (lv_at hl 0 rfl) ?_
          refine jt_q (.ref z_14.toNat) (rv_ref (h_20).1) ?_
          have h_21 : (-2147483648) ≤ v z_14 0 ∧ v z_14 0 ≤ 2147483647 := xf_4_0 hI h_20
          refine gx_RX12_422 (y := v z_14 0) hx hb hj hown hK hP h_20 (fr_use h_20 f_8 rfl) dX12_layLines_32 ?_
          refine lv_aload_n hx hb dX12_layLines_35 rfl (lv_at hl 5 rfl) ?_
          have h_22 : (-2147483648) ≤ v p2 0 ∧ v p2 0 ≤ 2147483647 := xf_0_0 hI q2
          refine gx_RX12_186 (y := v p2 0) hx hb hj hown hK hP q2 (fr_use q2 f_8 rfl) dX12_layLines_36 ?_
          refine xr_icmp_ne (tgt := 57) hx hb dX12_layLines_39 (by decide) (by omega) (by omega) (fun h_23 => ?_) (fun h_23 => ?_)
          · exact J57 a3_8 vc8 H locs ls (by omega) fr_rf I_9 hP hD hS hl
          · refine xq_aload hx hb dX12_layLines_42 (lv_at hl 0 rfl) ?_
            refine jt_q (.ref z_14.toNat) (rv_ref (h_20).1) ?_
            refine lv_iload_n hx hb dX12_layLines_44 rfl (lv_at hl 2 rfl) ?_
            refine px_RX12_436 (y := a3_8) hx hb hj hown hK hP hD hS I_9 h_20 ⟨by omega, by omega⟩ dX12_layLines_45 (fun v_24 H locs f_25 e_26 o_27 I_28 hP hD hS => ?_)
            refine lv_iinc (v := iI (a3_8 + 1)) (lv' := [(3, .int (iI (a3_8 + 1))), (5, rv z_14), (4, .int (iI a4_8)), (0, .ref p0.toNat), (1, .ref p1.toNat), (2, .ref p2.toNat)]) hx hb dX12_layLines_48 hl (k := 2) rfl (iI_add _ _) (by decide) rfl (fun ls hl => ?_)
            obtain ⟨z_29, h_30, h_31, e9⟩ := xr_keep (a3_8 + 1)
            rw [e9] at hl
            refine lv_aload_n hx hb dX12_layLines_51 rfl (lv_at hl 4 rfl) ?_
            refine lv_iload hx hb dX12_layLines_52 (lv_at hl 2 rfl) ?_
            refine jcg_v (va_runV (As := [.int (iI a4_8)]) (rest := []) ⟨hx, hb, hml, hown, hts⟩ (sX11_addLaid l dC dI _ L cid K N tW sK sV v_24 p1 a4_8 I_28 q1 (by omega)) (cwV 1 hts (jgoodV m_1153 m_1154 m_1155 m_1156 m_1157) rfl rfl rfl (by decide +kernel) ⟨(Nat.le_of_ble_eq_true rfl), (Nat.le_of_ble_eq_true rfl)⟩) ⟨xP_blind, xrecv hK hP q1 rfl rfl, fun U hU hW => ⟨rfl, xP_of hU hW hP hK hD hX hS (fun _ h => h) hA⟩⟩ rfl rfl hl.1 rfl (lv_room (Nat.le_of_ble_eq_true rfl)) dX12_layLines_54 ⟨(Nat.le_of_ble_eq_true rfl), (Nat.le_of_ble_eq_true rfl)⟩) hD hS hA (fun v_35 H locs w_33 hP hK hD hS => ?_)
            obtain ⟨I_37, f_36⟩ := w_33
            have hP : va_P (dC, dI) vwCl (xG L cid K N v_35) H := hP
            have hD : va_D A (xG L cid K N v_35) := hD
            exact J57 z_29 v_35 H locs ls (by omega) (fr_tr f_36 rfl (fr_tr f_25 rfl fr_rf)) I_37 hP hD hS (lv_sub hl [1, 2, 0, 3, 4, 5] rfl)
  exact L8 ((((v p0 13) - 0 : Int)).toNat + 1) 0 (v p2 13) v H locs ls (by omega) (by omega) (by omega) fr_rf hI hP hD hS hl
set_option maxHeartbeats 2000000 in
set_option maxRecDepth 100000 in
theorem sX12_takenLines (l : Launch) (dC : Nat → ClassId) (dI : Nat → Nat → Nat) (sz : Nat) (L : List Nat) (cid : Nat → ClassId) (K : Int → Nat) (N : Int → Int) (tW : Nat) (sK sV : Nat → Nat) (v : Int → Int → Int) (p0 : Int) (p1 : Int) (hI : xI L K N v) (q0 : ok L K p0 12) (q1 : ok L K p1 0) : Met l yX12_takenLines (jk yX12_takenLines cX12_takenLines 2 (some .int)) ({ frames := 0, cells := 0, slots := 0, locals := 0 }) (va_Pc [.ref p0.toNat, .ref p1.toNat] (xP (dC, dI) (xG L cid K N v) (xT cid) tW sK sV sz)) (va_Qi (fun (r : Int32) (_ : Unit) => ∃ z : Int, r = iI z ∧ (rg z)) (fun _ _ => True) (va_A [] sz)) 0 0 (va_A [] sz) := by
  refine Met.ofW (cc := cX12_takenLines) (maxL := 2) (ret := (some .int)) (by decide) rfl ?_
  intro p e s m args below meth c s₁ B hml hv
  obtain ⟨rfl, ⟨hsz, hP, hK, hD0⟩, hX⟩ := hv
  have hx := B.exec
  have hb := B.bytes
  have hr := B.returns
  have hts := atoms_spec (ws := (jk yX12_takenLines cX12_takenLines 2 (some .int))) B.pre
  have hj : ∀ w ∈ jw, w.before ([.ref p0.toNat, .ref p1.toNat] : List Value).toArray s = true := fun w h => hts w (jm h)
  have hown : s.vm.findClass RX12 = some m.cls := findClass_of_methodNamed B.named
  subst hsz
  have hDw := hD0.self (sz := s.heap.size)
  have hAA : ∀ q : Nat, s.heap.size ≤ q → va_A (xG L cid K N v) s.heap.size q := fun q h => Or.inr h
  have hAw : ∀ q, va_A [] s.heap.size q → va_A (xG L cid K N v) s.heap.size q := ja_nil va_S.rf hAA
  generalize hAe : (va_A [] s.heap.size) = A at hAw ⊢
  have hA : ∀ q : Nat, s.heap.size ≤ q → A q := fun q h => by rw [← hAe]; exact Or.inr h
  have hS : va_S A s.heap s.heap [] := va_S.rf
  have hXa := hX.nar hAw
  have hP : va_P (dC, dI) vwCl (xG L cid K N v) s.heap := hP
  have hl := lv_entry ([.ref p0.toNat, .ref p1.toNat]) (n := 2) (Nat.le_of_ble_eq_true rfl)
  rw [lg_entry_eq]
  generalize (lg_sl ([.ref p0.toNat, .ref p1.toNat]) ++ List.replicate (2 - (lg_sl ([.ref p0.toNat, .ref p1.toNat])).length) Slot.unset).toArray = ls at hl ⊢
  have hl : lv_has ls 2 [(0, .ref p0.toNat), (1, .ref p1.toNat)] := hl
  generalize hQ : MQ below (va_Qi (fun (r : Int32) (_ : Unit) => ∃ z : Int, r = iI z ∧ (rg z)) (fun _ _ => True) A) ([.ref p0.toNat, .ref p1.toNat] : List Value).toArray s 0 0 A = Q
  suffices ST : ∀ (H : Heap) (locs : List Loc), va_P (dC, dI) vwCl (xG L cid K N v) H → va_S A s.heap H locs → W p l e ({ frames := 0, cells := 0, slots := 0, locals := 0 }) s m ([.ref p0.toNat, .ref p1.toNat] : List Value).toArray below meth c H locs 0 0 Q (F0 m 0 ls []) from ST _ _ hP hS
  clear hP hS
  intro H locs hP hS
  refine lv_aload_n hx hb dX12_takenLines_0 rfl (lv_at hl 1 rfl) ?_
  have h_1 : (-2147483648) ≤ v p1 1 ∧ v p1 1 ≤ 2147483647 := xf_0_1 hI q1
  refine gx_RX12_240 (y := v p1 1) hx hb hj hown hK hP q1 rfl dX12_takenLines_1 ?_
  refine xr_if_ne (tgt := 12) hx hb dX12_takenLines_4 (by decide) (by omega) (fun h_2 => ?_) (fun h_2 => ?_)
  · refine lv_aload_n hx hb dX12_takenLines_12 rfl (lv_at hl 1 rfl) ?_
    refine gx_RX12_240 (y := v p1 1) hx hb hj hown hK hP q1 rfl dX12_takenLines_13 ?_
    refine lv_iconst (v := iI 1) hx hb dX12_takenLines_16 rfl ?_
    refine xr_icmp_ne (tgt := 24) hx hb dX12_takenLines_17 (by decide) (by omega) (by omega) (fun h_3 => ?_) (fun h_3 => ?_)
    · refine lv_bipush (v := iI 10) hx hb dX12_takenLines_24 rfl ?_
      rw [← hQ]
      exact W.iret (v := iI 10) hx hb hr (fun t ht hW => ⟨⟨iI 10, (), rfl, ⟨10, rfl, by omega⟩, trivial⟩, hS.F ht⟩) hS.2.2 dX12_takenLines_26
    · refine lv_iconst (v := iI 1) hx hb dX12_takenLines_20 rfl ?_
      refine lv_goto (tgt := 26) hx hb dX12_takenLines_21 (by decide) ?_
      rw [← hQ]
      exact W.iret (v := iI 1) hx hb hr (fun t ht hW => ⟨⟨iI 1, (), rfl, ⟨1, rfl, by omega⟩, trivial⟩, hS.F ht⟩) hS.2.2 dX12_takenLines_26
  · refine lv_aload_n hx hb dX12_takenLines_7 rfl (lv_at hl 1 rfl) ?_
    have h_4 : 0 ≤ v p1 15 ∧ v p1 15 ≤ 200 := xf_0_15 hI q1
    refine gx_RX12_342 (y := v p1 15) hx hb hj hown hK hP q1 rfl dX12_takenLines_8 ?_
    rw [← hQ]
    exact W.iret (v := iI (v p1 15)) hx hb hr (fun t ht hW => ⟨⟨iI (v p1 15), (), rfl, ⟨v p1 15, rfl, by omega⟩, trivial⟩, hS.F ht⟩) hS.2.2 dX12_takenLines_11
set_option maxHeartbeats 2000000 in
set_option maxRecDepth 100000 in
theorem sX12_page (l : Launch) (dC : Nat → ClassId) (dI : Nat → Nat → Nat) (sz : Nat) (L : List Nat) (cid : Nat → ClassId) (K : Int → Nat) (N : Int → Int) (tW : Nat) (sK sV : Nat → Nat) (v : Int → Int → Int) (p0 : Int) (p1 : Int) (hI : xI L K N v) (q0 : ok L K p0 12) (q1 : rg p1) : Met l yX12_page (jk yX12_page cX12_page 3 (some .int)) ({ frames := 1, cells := 0, slots := 0, locals := 21 }) (va_Pc [.ref p0.toNat, .int (iI p1)] (xP (dC, dI) (xG L cid K N v) (xT cid) tW sK sV sz)) (va_Qi (fun (r : Int32) (_ : Unit) => ∃ z : Int, r = iI z ∧ (rg z)) (fun _ _ => True) (va_A [] sz)) 0 0 (va_A [] sz) := by
  refine Met.ofW (cc := cX12_page) (maxL := 3) (ret := (some .int)) (by decide) rfl ?_
  intro p e s m args below meth c s₁ B hml hv
  obtain ⟨rfl, ⟨hsz, hP, hK, hD0⟩, hX⟩ := hv
  have hx := B.exec
  have hb := B.bytes
  have hr := B.returns
  have hts := atoms_spec (ws := (jk yX12_page cX12_page 3 (some .int))) B.pre
  have hj : ∀ w ∈ jw, w.before ([.ref p0.toNat, .int (iI p1)] : List Value).toArray s = true := fun w h => hts w (jm h)
  have hown : s.vm.findClass RX12 = some m.cls := findClass_of_methodNamed B.named
  subst hsz
  have hDw := hD0.self (sz := s.heap.size)
  have hAA : ∀ q : Nat, s.heap.size ≤ q → va_A (xG L cid K N v) s.heap.size q := fun q h => Or.inr h
  have hAw : ∀ q, va_A [] s.heap.size q → va_A (xG L cid K N v) s.heap.size q := ja_nil va_S.rf hAA
  generalize hAe : (va_A [] s.heap.size) = A at hAw ⊢
  have hA : ∀ q : Nat, s.heap.size ≤ q → A q := fun q h => by rw [← hAe]; exact Or.inr h
  have hS : va_S A s.heap s.heap [] := va_S.rf
  have hXa := hX.nar hAw
  have hP : va_P (dC, dI) vwCl (xG L cid K N v) s.heap := hP
  have hl := lv_entry ([.ref p0.toNat, .int (iI p1)]) (n := 3) (Nat.le_of_ble_eq_true rfl)
  rw [lg_entry_eq]
  generalize (lg_sl ([.ref p0.toNat, .int (iI p1)]) ++ List.replicate (3 - (lg_sl ([.ref p0.toNat, .int (iI p1)])).length) Slot.unset).toArray = ls at hl ⊢
  have hl : lv_has ls 3 [(0, .ref p0.toNat), (1, .int (iI p1))] := hl
  generalize hQ : MQ below (va_Qi (fun (r : Int32) (_ : Unit) => ∃ z : Int, r = iI z ∧ (rg z)) (fun _ _ => True) A) ([.ref p0.toNat, .int (iI p1)] : List Value).toArray s 0 0 A = Q
  suffices ST : ∀ (H : Heap) (locs : List Loc), va_P (dC, dI) vwCl (xG L cid K N v) H → va_S A s.heap H locs → W p l e ({ frames := 1, cells := 0, slots := 0, locals := 21 }) s m ([.ref p0.toNat, .int (iI p1)] : List Value).toArray below meth c H locs 0 0 Q (F0 m 0 ls []) from ST _ _ hP hS
  clear hP hS
  intro H locs hP hS
  refine lv_aload_n hx hb dX12_page_0 rfl (lv_at hl 0 rfl) ?_
  refine lv_iload_n hx hb dX12_page_1 rfl (lv_at hl 1 rfl) ?_
  refine jc_q (va_runV (As := [.int (iI p1)]) (rest := []) ⟨hx, hb, hml, hown, hts⟩ (sX12_entryAt l dC dI _ L cid K N tW sK sV v p0 p1 hI q0 (by omega)) (cwV 1 hts (jgoodV m_870 m_871 m_872 m_873 m_874) rfl rfl rfl (by decide +kernel) ⟨(Nat.le_of_ble_eq_true rfl), (Nat.le_of_ble_eq_true rfl)⟩) ⟨xP_blind, xrecv hK hP q0 rfl rfl, fun U hU hW => ⟨rfl, xP_of hU hW hP hK hDw hX hS hAw hAA⟩⟩ rfl rfl hl.1 rfl (lv_room (Nat.le_of_ble_eq_true rfl)) dX12_page_2 ⟨(Nat.le_of_ble_eq_true rfl), (Nat.le_of_ble_eq_true rfl)⟩) hP hS hA (fun r_1 H locs w_2 hP hS => ?_)
  obtain ⟨z_3, rfl, h_4⟩ := w_2
  refine jt_q (rv z_3) rfl ?_
  refine xq_astore_n (i := 2) (lv' := [(2, rv z_3), (0, .ref p0.toNat), (1, .int (iI p1))]) hx hb dX12_page_5 rfl hl (by decide) rfl (fun ls hl => ?_)
  refine xq_aload_n hx hb dX12_page_6 rfl (lv_at hl 0 rfl) ?_
  refine xq_ifnonnull (tgt := 14) hx hb dX12_page_7 (by decide) (fun h_5 => ?_) (fun h_5 => ?_)
  · have h_6 : ok L K z_3 0 := h_4.resolve_left (by omega)
    refine lv_aload_n hx hb dX12_page_14 rfl (lv_at hl 1 rfl) ?_
    refine xq_aload_n hx hb dX12_page_15 rfl (lv_at hl 0 rfl) ?_
    refine jt_q (.ref z_3.toNat) (rv_ref (h_6).1) ?_
    have h_7 : (-2147483648) ≤ v z_3 13 ∧ v z_3 13 ≤ 2147483647 := xf_0_13 hI h_6
    refine gx_RX12_468 (y := v z_3 13) hx hb hj hown hK hP h_6 rfl dX12_page_16 ?_
    refine jc_i (va_runV (As := [.int (iI (v z_3 13))]) (rest := []) ⟨hx, hb, hml, hown, hts⟩ (sX12_pageOf l dC dI _ p0 (v z_3 13) (by omega)) (cwV 1 hts (jgoodV m_1145 m_1146 m_1147 m_873 m_1148) rfl rfl rfl (by decide +kernel) ⟨(Nat.le_of_ble_eq_true rfl), (Nat.le_of_ble_eq_true rfl)⟩) ⟨jw_blind0, xrecv hK hP q0 rfl rfl, fun U hU hW => ⟨rfl, congrArg Array.size hU⟩⟩ rfl rfl hl.1 rfl (lv_room (Nat.le_of_ble_eq_true rfl)) dX12_page_19 ⟨(Nat.le_of_ble_eq_true rfl), (Nat.le_of_ble_eq_true rfl)⟩) hP hS hA (fun r_8 H locs w_9 hP hS => ?_)
    obtain ⟨z_10, rfl, h_11⟩ := w_9
    rw [← hQ]
    exact W.iret (v := iI z_10) hx hb hr (fun t ht hW => ⟨⟨iI z_10, (), rfl, ⟨z_10, rfl, by omega⟩, trivial⟩, hS.F ht⟩) hS.2.2 dX12_page_22
  · refine lv_iconst (v := iI (-1)) hx hb dX12_page_10 rfl ?_
    refine lv_goto (tgt := 22) hx hb dX12_page_11 (by decide) ?_
    rw [← hQ]
    exact W.iret (v := iI (-1)) hx hb hr (fun t ht hW => ⟨⟨iI (-1), (), rfl, ⟨(-1), rfl, by omega⟩, trivial⟩, hS.F ht⟩) hS.2.2 dX12_page_22
set_option maxHeartbeats 2000000 in
set_option maxRecDepth 100000 in
theorem sX12_isAway (l : Launch) (dC : Nat → ClassId) (dI : Nat → Nat → Nat) (sz : Nat) (L : List Nat) (cid : Nat → ClassId) (K : Int → Nat) (N : Int → Int) (tW : Nat) (sK sV : Nat → Nat) (v : Int → Int → Int) (p0 : Int) (p1 : Int) (hI : xI L K N v) (q0 : ok L K p0 12) (q1 : ok L K p1 0) : Met l yX12_isAway (jk yX12_isAway cX12_isAway 2 (some .boolean)) ({ frames := 2, cells := 0, slots := 0, locals := 42 }) (va_Pc [.ref p0.toNat, .ref p1.toNat] (xP (dC, dI) (xG L cid K N v) (xT cid) tW sK sV sz)) (va_Qi (fun (r : Int32) (_ : Unit) => ∃ z : Int, r = iI z ∧ (0 ≤ z ∧ z ≤ 1)) (fun _ _ => True) (va_A [] sz)) 0 0 (va_A [] sz) := by
  refine Met.ofW (cc := cX12_isAway) (maxL := 2) (ret := (some .boolean)) (by decide) rfl ?_
  intro p e s m args below meth c s₁ B hml hv
  obtain ⟨rfl, ⟨hsz, hP, hK, hD0⟩, hX⟩ := hv
  have hx := B.exec
  have hb := B.bytes
  have hr := B.returns
  have hts := atoms_spec (ws := (jk yX12_isAway cX12_isAway 2 (some .boolean))) B.pre
  have hj : ∀ w ∈ jw, w.before ([.ref p0.toNat, .ref p1.toNat] : List Value).toArray s = true := fun w h => hts w (jm h)
  have hown : s.vm.findClass RX12 = some m.cls := findClass_of_methodNamed B.named
  subst hsz
  have hDw := hD0.self (sz := s.heap.size)
  have hAA : ∀ q : Nat, s.heap.size ≤ q → va_A (xG L cid K N v) s.heap.size q := fun q h => Or.inr h
  have hAw : ∀ q, va_A [] s.heap.size q → va_A (xG L cid K N v) s.heap.size q := ja_nil va_S.rf hAA
  generalize hAe : (va_A [] s.heap.size) = A at hAw ⊢
  have hA : ∀ q : Nat, s.heap.size ≤ q → A q := fun q h => by rw [← hAe]; exact Or.inr h
  have hS : va_S A s.heap s.heap [] := va_S.rf
  have hXa := hX.nar hAw
  have hP : va_P (dC, dI) vwCl (xG L cid K N v) s.heap := hP
  have hl := lv_entry ([.ref p0.toNat, .ref p1.toNat]) (n := 2) (Nat.le_of_ble_eq_true rfl)
  rw [lg_entry_eq]
  generalize (lg_sl ([.ref p0.toNat, .ref p1.toNat]) ++ List.replicate (2 - (lg_sl ([.ref p0.toNat, .ref p1.toNat])).length) Slot.unset).toArray = ls at hl ⊢
  have hl : lv_has ls 2 [(0, .ref p0.toNat), (1, .ref p1.toNat)] := hl
  generalize hQ : MQ below (va_Qi (fun (r : Int32) (_ : Unit) => ∃ z : Int, r = iI z ∧ (0 ≤ z ∧ z ≤ 1)) (fun _ _ => True) A) ([.ref p0.toNat, .ref p1.toNat] : List Value).toArray s 0 0 A = Q
  suffices ST : ∀ (H : Heap) (locs : List Loc), va_P (dC, dI) vwCl (xG L cid K N v) H → va_S A s.heap H locs → W p l e ({ frames := 2, cells := 0, slots := 0, locals := 42 }) s m ([.ref p0.toNat, .ref p1.toNat] : List Value).toArray below meth c H locs 0 0 Q (F0 m 0 ls []) from ST _ _ hP hS
  clear hP hS
  intro H locs hP hS
  refine lv_aload_n hx hb dX12_isAway_0 rfl (lv_at hl 0 rfl) ?_
  refine lv_aload_n hx hb dX12_isAway_1 rfl (lv_at hl 1 rfl) ?_
  refine jc_i (va_runV (As := [.ref p1.toNat]) (rest := []) ⟨hx, hb, hml, hown, hts⟩ (sX12_isStruck l dC dI _ L cid K N tW sK sV v p0 p1 hI q0 q1) (cwV 1 hts (jgoodV m_1060 m_1061 m_1062 m_873 m_1063) rfl rfl rfl (by decide +kernel) ⟨(Nat.le_of_ble_eq_true rfl), (Nat.le_of_ble_eq_true rfl)⟩) ⟨xP_blind, xrecv hK hP q0 rfl rfl, fun U hU hW => ⟨rfl, xP_of hU hW hP hK hDw hX hS hAw hAA⟩⟩ rfl rfl hl.1 rfl (lv_room (Nat.le_of_ble_eq_true rfl)) dX12_isAway_2 ⟨(Nat.le_of_ble_eq_true rfl), (Nat.le_of_ble_eq_true rfl)⟩) hP hS hA (fun r_1 H locs w_2 hP hS => ?_)
  obtain ⟨z_3, rfl, h_4⟩ := w_2
  refine xr_if_ne (tgt := 16) hx hb dX12_isAway_5 (by decide) (by omega) (fun h_5 => ?_) (fun h_5 => ?_)
  · refine lv_iconst (v := iI 1) hx hb dX12_isAway_16 rfl ?_
    refine lv_goto (tgt := 21) hx hb dX12_isAway_17 (by decide) ?_
    rw [← hQ]
    exact W.zret (v := iI 1) (ty := .boolean) hx hb hr (nb_bool (by omega) (by omega)) (fun t ht hW => ⟨⟨iI 1, (), rfl, ⟨1, rfl, by omega⟩, trivial⟩, hS.F ht⟩) hS.2.2 dX12_isAway_21
  · refine lv_aload_n hx hb dX12_isAway_8 rfl (lv_at hl 0 rfl) ?_
    refine lv_aload_n hx hb dX12_isAway_9 rfl (lv_at hl 1 rfl) ?_
    refine jc_i (va_runV (As := [.ref p1.toNat]) (rest := []) ⟨hx, hb, hml, hown, hts⟩ (sX12_isLater l dC dI _ L cid K N tW sK sV v p0 p1 hI q0 q1) (cwV 1 hts (jgoodV m_1031 m_1032 m_1033 m_873 m_1034) rfl rfl rfl (by decide +kernel) ⟨(Nat.le_of_ble_eq_true rfl), (Nat.le_of_ble_eq_true rfl)⟩) ⟨xP_blind, xrecv hK hP q0 rfl rfl, fun U hU hW => ⟨rfl, xP_of hU hW hP hK hDw hX hS hAw hAA⟩⟩ rfl rfl hl.1 rfl (lv_room (Nat.le_of_ble_eq_true rfl)) dX12_isAway_10 ⟨(Nat.le_of_ble_eq_true rfl), (Nat.le_of_ble_eq_true rfl)⟩) hP hS hA (fun r_6 H locs w_7 hP hS => ?_)
    obtain ⟨z_8, rfl, h_9⟩ := w_7
    refine xr_if_eq (tgt := 20) hx hb dX12_isAway_13 (by decide) (by omega) (fun h_10 => ?_) (fun h_10 => ?_)
    · refine lv_iconst (v := iI 0) hx hb dX12_isAway_20 rfl ?_
      rw [← hQ]
      exact W.zret (v := iI 0) (ty := .boolean) hx hb hr (nb_bool (by omega) (by omega)) (fun t ht hW => ⟨⟨iI 0, (), rfl, ⟨0, rfl, by omega⟩, trivial⟩, hS.F ht⟩) hS.2.2 dX12_isAway_21
    · refine lv_iconst (v := iI 1) hx hb dX12_isAway_16 rfl ?_
      refine lv_goto (tgt := 21) hx hb dX12_isAway_17 (by decide) ?_
      rw [← hQ]
      exact W.zret (v := iI 1) (ty := .boolean) hx hb hr (nb_bool (by omega) (by omega)) (fun t ht hW => ⟨⟨iI 1, (), rfl, ⟨1, rfl, by omega⟩, trivial⟩, hS.F ht⟩) hS.2.2 dX12_isAway_21
