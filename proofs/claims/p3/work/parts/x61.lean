set_option maxHeartbeats 2000000 in
set_option maxRecDepth 100000 in
theorem sX12_giving (l : Launch) (dC : Nat → ClassId) (dI : Nat → Nat → Nat) (sz : Nat) (L : List Nat) (cid : Nat → ClassId) (K : Int → Nat) (N : Int → Int) (tW : Nat) (sK sV : Nat → Nat) (v : Int → Int → Int) (p0 : Int) (p1 : Int) (p2 : Int) (p3 : Int) (hI : xI L K N v) (q0 : ok L K p0 12) (q1 : rg p1) (q2 : rg p2) (q3 : rg p3) : Met l yX12_giving (jk yX12_giving cX12_giving 4 (some .int)) ({ frames := 7, cells := 0, slots := 0, locals := 186 }) (va_Pc [.ref p0.toNat, .int (iI p1), .int (iI p2), .int (iI p3)] (xP (dC, dI) (xG L cid K N v) (xT cid) tW sK sV sz)) (va_Qi (fun (r : Int32) (u : (Int → Int → Int)) => ∃ z : Int, r = iI z ∧ (xI L K N u) ∧ (fr K [(1, 3), (1, 7), (33, (-1)), (34, (-1)), (53, (-1)), (54, (-1)), (55, (-1)), (56, (-1)), (57, (-1)), (58, (-1)), (59, (-1)), (60, (-1))] u v) ∧ (rg z)) (fun u t => va_P (dC, dI) vwCl (xG L cid K N u) t.heap ∧ va_K (dC, dI) vwCl (xT cid) t ∧ va_D (va_A (xG L cid K N v) sz) (xG L cid K N u)) (va_A (xG L cid K N v) sz)) 0 0 (va_A (xG L cid K N v) sz) := by
  refine Met.ofW (cc := cX12_giving) (maxL := 4) (ret := (some .int)) (by decide) rfl ?_
  intro p e s m args below meth c s₁ B hml hv
  obtain ⟨rfl, ⟨hsz, hP, hK, hD0⟩, hX⟩ := hv
  have hx := B.exec
  have hb := B.bytes
  have hr := B.returns
  have hts := atoms_spec (ws := (jk yX12_giving cX12_giving 4 (some .int))) B.pre
  have hj : ∀ w ∈ jw, w.before ([.ref p0.toNat, .int (iI p1), .int (iI p2), .int (iI p3)] : List Value).toArray s = true := fun w h => hts w (jm h)
  have hown : s.vm.findClass RX12 = some m.cls := findClass_of_methodNamed B.named
  subst hsz
  have hD := hD0.self (sz := s.heap.size)
  generalize hAe : (va_A (xG L cid K N v) s.heap.size) = A at hD hX ⊢
  have hA : ∀ q : Nat, s.heap.size ≤ q → A q := fun q h => by rw [← hAe]; exact Or.inr h
  have hS : va_S A s.heap s.heap [] := va_S.rf
  have hXa := hX
  have hP : va_P (dC, dI) vwCl (xG L cid K N v) s.heap := hP
  have hl := lv_entry ([.ref p0.toNat, .int (iI p1), .int (iI p2), .int (iI p3)]) (n := 4) (Nat.le_of_ble_eq_true rfl)
  rw [lg_entry_eq]
  generalize (lg_sl ([.ref p0.toNat, .int (iI p1), .int (iI p2), .int (iI p3)]) ++ List.replicate (4 - (lg_sl ([.ref p0.toNat, .int (iI p1), .int (iI p2), .int (iI p3)])).length) Slot.unset).toArray = ls at hl ⊢
  have hl : lv_has ls 4 [(0, .ref p0.toNat), (1, .int (iI p1)), (2, .int (iI p2)), (3, .int (iI p3))] := hl
  generalize hQ : MQ below (va_Qi (fun (r : Int32) (u : (Int → Int → Int)) => ∃ z : Int, r = iI z ∧ (xI L K N u) ∧ (fr K [(1, 3), (1, 7), (33, (-1)), (34, (-1)), (53, (-1)), (54, (-1)), (55, (-1)), (56, (-1)), (57, (-1)), (58, (-1)), (59, (-1)), (60, (-1))] u v) ∧ (rg z)) (fun u t => va_P (dC, dI) vwCl (xG L cid K N u) t.heap ∧ va_K (dC, dI) vwCl (xT cid) t ∧ va_D A (xG L cid K N u)) A) ([.ref p0.toNat, .int (iI p1), .int (iI p2), .int (iI p3)] : List Value).toArray s 0 0 A = Q
  suffices ST : ∀ (H : Heap) (locs : List Loc), va_P (dC, dI) vwCl (xG L cid K N v) H → va_S A s.heap H locs → W p l e ({ frames := 7, cells := 0, slots := 0, locals := 186 }) s m ([.ref p0.toNat, .int (iI p1), .int (iI p2), .int (iI p3)] : List Value).toArray below meth c H locs 0 0 Q (F0 m 0 ls []) from ST _ _ hP hS
  clear hP hS
  intro H locs hP hS
  refine lv_aload_n hx hb dX12_giving_0 rfl (lv_at hl 0 rfl) ?_
  refine lv_iload_n hx hb dX12_giving_1 rfl (lv_at hl 1 rfl) ?_
  refine lv_iload_n hx hb dX12_giving_2 rfl (lv_at hl 2 rfl) ?_
  refine lv_iload_n hx hb dX12_giving_3 rfl (lv_at hl 3 rfl) ?_
  refine jc_i (va_runV (As := [.int (iI p1), .int (iI p2), .int (iI p3)]) (rest := []) ⟨hx, hb, hml, hown, hts⟩ (sX12_canGive l dC dI _ p0 p1 p2 p3 (by omega) (by omega) (by omega)) (cwV 3 hts (jgoodV m_1238 m_1239 m_1240 m_873 m_1241) rfl rfl rfl (by decide +kernel) ⟨(Nat.le_of_ble_eq_true rfl), (Nat.le_of_ble_eq_true rfl)⟩) ⟨jw_blind0, xrecv hK hP q0 rfl rfl, fun U hU hW => ⟨rfl, congrArg Array.size hU⟩⟩ rfl rfl hl.1 rfl (lv_room (Nat.le_of_ble_eq_true rfl)) dX12_giving_4 ⟨(Nat.le_of_ble_eq_true rfl), (Nat.le_of_ble_eq_true rfl)⟩) hP hS hA (fun r_1 H locs w_2 hP hS => ?_)
  obtain ⟨z_3, rfl, h_4⟩ := w_2
  refine xr_if_eq (tgt := 37) hx hb dX12_giving_7 (by decide) (by omega) (fun h_5 => ?_) (fun h_5 => ?_)
  · refine lv_iconst (v := iI (-1)) hx hb dX12_giving_37 rfl ?_
    rw [← hQ]
    exact W.iret (v := iI (-1)) hx hb hr (fun t ht hW => ⟨⟨iI (-1), v, rfl, ⟨(-1), rfl, hI, fr_rf, by omega⟩, by rw [ht]; exact hP, va_K.moved hW.alike hK, hD⟩, hS.F ht⟩) hS.2.2 dX12_giving_38
  · refine lv_aload_n hx hb dX12_giving_10 rfl (lv_at hl 0 rfl) ?_
    refine lv_iload_n hx hb dX12_giving_11 rfl (lv_at hl 2 rfl) ?_
    refine lv_iload_n hx hb dX12_giving_12 rfl (lv_at hl 3 rfl) ?_
    refine jcg_i (va_runV (As := [.int (iI p2), .int (iI p3)]) (rest := []) ⟨hx, hb, hml, hown, hts⟩ (sX12_addHands l dC dI _ L cid K N tW sK sV v p0 p2 p3 hI q0 (by omega) (by omega)) (cwV 2 hts (jgoodV m_1242 m_1243 m_1244 m_873 m_1245) rfl rfl rfl (by decide +kernel) ⟨(Nat.le_of_ble_eq_true rfl), (Nat.le_of_ble_eq_true rfl)⟩) ⟨xP_blind, xrecv hK hP q0 rfl rfl, fun U hU hW => ⟨rfl, xP_of hU hW hP hK hD hX hS (fun _ h => h) hA⟩⟩ rfl rfl hl.1 rfl (lv_room (Nat.le_of_ble_eq_true rfl)) dX12_giving_13 ⟨(Nat.le_of_ble_eq_true rfl), (Nat.le_of_ble_eq_true rfl)⟩) hD hS hA (fun r_6 v_10 H locs w_7 hP hK hD hS => ?_)
    obtain ⟨z_8, rfl, I_12, f_11, h_9⟩ := w_7
    have hP : va_P (dC, dI) vwCl (xG L cid K N v_10) H := hP
    have hD : va_D A (xG L cid K N v_10) := hD
    refine xr_if_eq (tgt := 37) hx hb dX12_giving_16 (by decide) (by omega) (fun h_13 => ?_) (fun h_13 => ?_)
    · refine lv_iconst (v := iI (-1)) hx hb dX12_giving_37 rfl ?_
      rw [← hQ]
      exact W.iret (v := iI (-1)) hx hb hr (fun t ht hW => ⟨⟨iI (-1), v_10, rfl, ⟨(-1), rfl, I_12, (fr_tr f_11 rfl fr_rf), by omega⟩, by rw [ht]; exact hP, va_K.moved hW.alike hK, hD⟩, hS.F ht⟩) hS.2.2 dX12_giving_38
    · refine lv_aload_n hx hb dX12_giving_19 rfl (lv_at hl 0 rfl) ?_
      refine lv_iload_n hx hb dX12_giving_20 rfl (lv_at hl 1 rfl) ?_
      refine jcg_i (va_runV (As := [.int (iI p1)]) (rest := []) ⟨hx, hb, hml, hown, hts⟩ (sX12_addArticles l dC dI _ L cid K N tW sK sV v_10 p0 p1 I_12 q0 (by omega)) (cwV 1 hts (jgoodV m_1246 m_1247 m_1248 m_873 m_1249) rfl rfl rfl (by decide +kernel) ⟨(Nat.le_of_ble_eq_true rfl), (Nat.le_of_ble_eq_true rfl)⟩) ⟨xP_blind, xrecv hK hP q0 rfl rfl, fun U hU hW => ⟨rfl, xP_of hU hW hP hK hD hX hS (fun _ h => h) hA⟩⟩ rfl rfl hl.1 rfl (lv_room (Nat.le_of_ble_eq_true rfl)) dX12_giving_21 ⟨(Nat.le_of_ble_eq_true rfl), (Nat.le_of_ble_eq_true rfl)⟩) hD hS hA (fun r_14 v_18 H locs w_15 hP hK hD hS => ?_)
      obtain ⟨z_16, rfl, I_20, f_19, h_17⟩ := w_15
      have hP : va_P (dC, dI) vwCl (xG L cid K N v_18) H := hP
      have hD : va_D A (xG L cid K N v_18) := hD
      refine xr_if_eq (tgt := 37) hx hb dX12_giving_24 (by decide) (by omega) (fun h_21 => ?_) (fun h_21 => ?_)
      · refine lv_iconst (v := iI (-1)) hx hb dX12_giving_37 rfl ?_
        rw [← hQ]
        exact W.iret (v := iI (-1)) hx hb hr (fun t ht hW => ⟨⟨iI (-1), v_18, rfl, ⟨(-1), rfl, I_20, (fr_tr f_19 rfl (fr_tr f_11 rfl fr_rf)), by omega⟩, by rw [ht]; exact hP, va_K.moved hW.alike hK, hD⟩, hS.F ht⟩) hS.2.2 dX12_giving_38
      · refine lv_aload_n hx hb dX12_giving_27 rfl (lv_at hl 0 rfl) ?_
        have h_22 : ok L K (v p0 18) 1 := xf_12_18 hI q0
        refine gx_RX12_92 (y := v p0 18) hx hb hj hown hK hP q0 ((xf_12_18 I_20 q0).1) (((fr_use q0 f_19 rfl)).trans (fr_use q0 f_11 rfl)) dX12_giving_28 ?_
        refine jcg_i (va_runV (As := []) (rest := []) ⟨hx, hb, hml, hown, hts⟩ (sX1_choose l dC dI _ L cid K N tW sK sV v_18 (v p0 18) I_20 h_22) (cwV 0 hts (jgoodV m_1250 m_1251 m_1252 m_888 m_1253) rfl rfl rfl (by decide +kernel) ⟨(Nat.le_of_ble_eq_true rfl), (Nat.le_of_ble_eq_true rfl)⟩) ⟨xP_blind, xrecv hK hP h_22 rfl rfl, fun U hU hW => ⟨rfl, xP_of hU hW hP hK hD hX hS (fun _ h => h) hA⟩⟩ rfl rfl hl.1 rfl (lv_room (Nat.le_of_ble_eq_true rfl)) dX12_giving_31 ⟨(Nat.le_of_ble_eq_true rfl), (Nat.le_of_ble_eq_true rfl)⟩) hD hS hA (fun r_23 v_27 H locs w_24 hP hK hD hS => ?_)
        obtain ⟨z_25, rfl, I_29, f_28, h_26⟩ := w_24
        have hP : va_P (dC, dI) vwCl (xG L cid K N v_27) H := hP
        have hD : va_D A (xG L cid K N v_27) := hD
        refine lv_goto (tgt := 38) hx hb dX12_giving_34 (by decide) ?_
        rw [← hQ]
        exact W.iret (v := iI z_25) hx hb hr (fun t ht hW => ⟨⟨iI z_25, v_27, rfl, ⟨z_25, rfl, I_29, (fr_tr f_28 rfl (fr_tr f_19 rfl (fr_tr f_11 rfl fr_rf))), by omega⟩, by rw [ht]; exact hP, va_K.moved hW.alike hK, hD⟩, hS.F ht⟩) hS.2.2 dX12_giving_38
set_option maxHeartbeats 2000000 in
set_option maxRecDepth 100000 in
theorem sX12_given (l : Launch) (dC : Nat → ClassId) (dI : Nat → Nat → Nat) (sz : Nat) (L : List Nat) (cid : Nat → ClassId) (K : Int → Nat) (N : Int → Int) (tW : Nat) (sK sV : Nat → Nat) (v : Int → Int → Int) (p0 : Int) (p1 : Int) (p2 : Int) (p3 : Int) (p4 : Int) (hI : xI L K N v) (q0 : ok L K p0 12) (q1 : rg p1) (q2 : rg p2) (q3 : rg p3) (q4 : rg p4) : Met l yX12_given (jk yX12_given cX12_given 6 (some .int)) ({ frames := 7, cells := 0, slots := 0, locals := 186 }) (va_Pc [.ref p0.toNat, .int (iI p1), .int (iI p2), .int (iI p3), .int (iI p4)] (xP (dC, dI) (xG L cid K N v) (xT cid) tW sK sV sz)) (va_Qi (fun (r : Int32) (u : (Int → Int → Int)) => ∃ z : Int, r = iI z ∧ (xI L K N u) ∧ (fr K [(1, 3), (1, 7), (33, (-1)), (34, (-1)), (53, (-1)), (54, (-1)), (55, (-1)), (56, (-1)), (57, (-1)), (58, (-1)), (59, (-1)), (60, (-1))] u v) ∧ (rg z)) (fun u t => va_P (dC, dI) vwCl (xG L cid K N u) t.heap ∧ va_K (dC, dI) vwCl (xT cid) t ∧ va_D (va_A (xG L cid K N v) sz) (xG L cid K N u)) (va_A (xG L cid K N v) sz)) 0 0 (va_A (xG L cid K N v) sz) := by
  refine Met.ofW (cc := cX12_given) (maxL := 6) (ret := (some .int)) (by decide) rfl ?_
  intro p e s m args below meth c s₁ B hml hv
  obtain ⟨rfl, ⟨hsz, hP, hK, hD0⟩, hX⟩ := hv
  have hx := B.exec
  have hb := B.bytes
  have hr := B.returns
  have hts := atoms_spec (ws := (jk yX12_given cX12_given 6 (some .int))) B.pre
  have hj : ∀ w ∈ jw, w.before ([.ref p0.toNat, .int (iI p1), .int (iI p2), .int (iI p3), .int (iI p4)] : List Value).toArray s = true := fun w h => hts w (jm h)
  have hown : s.vm.findClass RX12 = some m.cls := findClass_of_methodNamed B.named
  subst hsz
  have hD := hD0.self (sz := s.heap.size)
  generalize hAe : (va_A (xG L cid K N v) s.heap.size) = A at hD hX ⊢
  have hA : ∀ q : Nat, s.heap.size ≤ q → A q := fun q h => by rw [← hAe]; exact Or.inr h
  have hS : va_S A s.heap s.heap [] := va_S.rf
  have hXa := hX
  have hP : va_P (dC, dI) vwCl (xG L cid K N v) s.heap := hP
  have hl := lv_entry ([.ref p0.toNat, .int (iI p1), .int (iI p2), .int (iI p3), .int (iI p4)]) (n := 6) (Nat.le_of_ble_eq_true rfl)
  rw [lg_entry_eq]
  generalize (lg_sl ([.ref p0.toNat, .int (iI p1), .int (iI p2), .int (iI p3), .int (iI p4)]) ++ List.replicate (6 - (lg_sl ([.ref p0.toNat, .int (iI p1), .int (iI p2), .int (iI p3), .int (iI p4)])).length) Slot.unset).toArray = ls at hl ⊢
  have hl : lv_has ls 6 [(0, .ref p0.toNat), (1, .int (iI p1)), (2, .int (iI p2)), (3, .int (iI p3)), (4, .int (iI p4))] := hl
  generalize hQ : MQ below (va_Qi (fun (r : Int32) (u : (Int → Int → Int)) => ∃ z : Int, r = iI z ∧ (xI L K N u) ∧ (fr K [(1, 3), (1, 7), (33, (-1)), (34, (-1)), (53, (-1)), (54, (-1)), (55, (-1)), (56, (-1)), (57, (-1)), (58, (-1)), (59, (-1)), (60, (-1))] u v) ∧ (rg z)) (fun u t => va_P (dC, dI) vwCl (xG L cid K N u) t.heap ∧ va_K (dC, dI) vwCl (xT cid) t ∧ va_D A (xG L cid K N u)) A) ([.ref p0.toNat, .int (iI p1), .int (iI p2), .int (iI p3), .int (iI p4)] : List Value).toArray s 0 0 A = Q
  suffices ST : ∀ (H : Heap) (locs : List Loc), va_P (dC, dI) vwCl (xG L cid K N v) H → va_S A s.heap H locs → W p l e ({ frames := 7, cells := 0, slots := 0, locals := 186 }) s m ([.ref p0.toNat, .int (iI p1), .int (iI p2), .int (iI p3), .int (iI p4)] : List Value).toArray below meth c H locs 0 0 Q (F0 m 0 ls []) from ST _ _ hP hS
  clear hP hS
  intro H locs hP hS
  refine lv_aload_n hx hb dX12_given_0 rfl (lv_at hl 0 rfl) ?_
  refine lv_iload_n hx hb dX12_given_1 rfl (lv_at hl 1 rfl) ?_
  refine lv_iload_n hx hb dX12_given_2 rfl (lv_at hl 2 rfl) ?_
  refine lv_iload_n hx hb dX12_given_3 rfl (lv_at hl 3 rfl) ?_
  refine jc_i (va_runV (As := [.int (iI p1), .int (iI p2), .int (iI p3)]) (rest := []) ⟨hx, hb, hml, hown, hts⟩ (sX12_canGive l dC dI _ p0 p1 p2 p3 (by omega) (by omega) (by omega)) (cwV 3 hts (jgoodV m_1238 m_1239 m_1240 m_873 m_1241) rfl rfl rfl (by decide +kernel) ⟨(Nat.le_of_ble_eq_true rfl), (Nat.le_of_ble_eq_true rfl)⟩) ⟨jw_blind0, xrecv hK hP q0 rfl rfl, fun U hU hW => ⟨rfl, congrArg Array.size hU⟩⟩ rfl rfl hl.1 rfl (lv_room (Nat.le_of_ble_eq_true rfl)) dX12_given_4 ⟨(Nat.le_of_ble_eq_true rfl), (Nat.le_of_ble_eq_true rfl)⟩) hP hS hA (fun r_1 H locs w_2 hP hS => ?_)
  obtain ⟨z_3, rfl, h_4⟩ := w_2
  have J32 : ∀ (s0_32 : Int) (vc32 : Int → Int → Int) (H : Heap) (locs : List Loc) (ls : Array Slot), (0 ≤ s0_32 ∧ s0_32 ≤ 1) → fr K [(1, 3), (1, 7), (33, (-1)), (34, (-1)), (53, (-1)), (54, (-1)), (55, (-1)), (56, (-1)), (57, (-1)), (58, (-1))] vc32 v → xI L K N vc32 → va_P (dC, dI) vwCl (xG L cid K N vc32) H → va_D A (xG L cid K N vc32) → va_S A s.heap H locs → lv_has ls 6 [(0, .ref p0.toNat), (1, .int (iI p1)), (2, .int (iI p2)), (3, .int (iI p3)), (4, .int (iI p4))] → W p l e ({ frames := 7, cells := 0, slots := 0, locals := 186 }) s m ([.ref p0.toNat, .int (iI p1), .int (iI p2), .int (iI p3), .int (iI p4)] : List Value).toArray below meth c H locs 0 0 Q (F0 m 32 ls [.int (iI s0_32)]) := by
    intro s0_32 vc32 H locs ls h_5 f_6 I_7 hP hD hS hl
    refine lv_istore (i := 5) (lv' := [(5, .int (iI s0_32)), (0, .ref p0.toNat), (1, .int (iI p1)), (2, .int (iI p2)), (3, .int (iI p3)), (4, .int (iI p4))]) hx hb dX12_given_32 hl (by decide) rfl (fun ls hl => ?_)
    refine lv_iload hx hb dX12_given_34 (lv_at hl 0 rfl) ?_
    refine xr_if_eq (tgt := 61) hx hb dX12_given_36 (by decide) (by omega) (fun h_8 => ?_) (fun h_8 => ?_)
    · refine lv_iconst (v := iI (-1)) hx hb dX12_given_61 rfl ?_
      rw [← hQ]
      exact W.iret (v := iI (-1)) hx hb hr (fun t ht hW => ⟨⟨iI (-1), vc32, rfl, ⟨(-1), rfl, I_7, (fr_tr f_6 rfl fr_rf), by omega⟩, by rw [ht]; exact hP, va_K.moved hW.alike hK, hD⟩, hS.F ht⟩) hS.2.2 dX12_given_62
    · refine lv_aload_n hx hb dX12_given_39 rfl (lv_at hl 1 rfl) ?_
      have h_9 : ok L K (v p0 18) 1 := xf_12_18 hI q0
      refine gx_RX12_92 (y := v p0 18) hx hb hj hown hK hP q0 ((xf_12_18 I_7 q0).1) (fr_use q0 f_6 rfl) dX12_given_40 ?_
      refine jcg_i (va_runV (As := []) (rest := []) ⟨hx, hb, hml, hown, hts⟩ (sX1_choose l dC dI _ L cid K N tW sK sV vc32 (v p0 18) I_7 h_9) (cwV 0 hts (jgoodV m_1250 m_1251 m_1252 m_888 m_1253) rfl rfl rfl (by decide +kernel) ⟨(Nat.le_of_ble_eq_true rfl), (Nat.le_of_ble_eq_true rfl)⟩) ⟨xP_blind, xrecv hK hP h_9 rfl rfl, fun U hU hW => ⟨rfl, xP_of hU hW hP hK hD hX hS (fun _ h => h) hA⟩⟩ rfl rfl hl.1 rfl (lv_room (Nat.le_of_ble_eq_true rfl)) dX12_given_43 ⟨(Nat.le_of_ble_eq_true rfl), (Nat.le_of_ble_eq_true rfl)⟩) hD hS hA (fun r_10 v_14 H locs w_11 hP hK hD hS => ?_)
      obtain ⟨z_12, rfl, I_16, f_15, h_13⟩ := w_11
      have hP : va_P (dC, dI) vwCl (xG L cid K N v_14) H := hP
      have hD : va_D A (xG L cid K N v_14) := hD
      refine xr_if_le (tgt := 61) hx hb dX12_given_46 (by decide) (by omega) (fun h_17 => ?_) (fun h_17 => ?_)
      · refine lv_iconst (v := iI (-1)) hx hb dX12_given_61 rfl ?_
        rw [← hQ]
        exact W.iret (v := iI (-1)) hx hb hr (fun t ht hW => ⟨⟨iI (-1), v_14, rfl, ⟨(-1), rfl, I_16, (fr_tr f_15 rfl (fr_tr f_6 rfl fr_rf)), by omega⟩, by rw [ht]; exact hP, va_K.moved hW.alike hK, hD⟩, hS.F ht⟩) hS.2.2 dX12_given_62
      · refine lv_aload_n hx hb dX12_given_49 rfl (lv_at hl 1 rfl) ?_
        refine gx_RX12_92 (y := v p0 18) hx hb hj hown hK hP q0 ((xf_12_18 I_16 q0).1) (((fr_use q0 f_15 rfl)).trans (fr_use q0 f_6 rfl)) dX12_given_50 ?_
        refine lv_iload hx hb dX12_given_53 (lv_at hl 5 rfl) ?_
        refine jc_i (va_runV (As := [.int (iI p4)]) (rest := []) ⟨hx, hb, hml, hown, hts⟩ (sX1_handOf l dC dI _ L cid K N tW sK sV v_14 (v p0 18) p4 I_16 h_9 (by omega)) (cwV 1 hts (jgoodV m_1254 m_1255 m_1256 m_888 m_1257) rfl rfl rfl (by decide +kernel) ⟨(Nat.le_of_ble_eq_true rfl), (Nat.le_of_ble_eq_true rfl)⟩) ⟨xP_blind, xrecv hK hP h_9 rfl rfl, fun U hU hW => ⟨rfl, xP_of hU hW hP hK hD hX hS (fun _ h => h) hA⟩⟩ rfl rfl hl.1 rfl (lv_room (Nat.le_of_ble_eq_true rfl)) dX12_given_55 ⟨(Nat.le_of_ble_eq_true rfl), (Nat.le_of_ble_eq_true rfl)⟩) hP hS hA (fun r_18 H locs w_19 hP hS => ?_)
        obtain ⟨z_20, rfl, h_21⟩ := w_19
        refine lv_goto (tgt := 62) hx hb dX12_given_58 (by decide) ?_
        rw [← hQ]
        exact W.iret (v := iI z_20) hx hb hr (fun t ht hW => ⟨⟨iI z_20, v_14, rfl, ⟨z_20, rfl, I_16, (fr_tr f_15 rfl (fr_tr f_6 rfl fr_rf)), by omega⟩, by rw [ht]; exact hP, va_K.moved hW.alike hK, hD⟩, hS.F ht⟩) hS.2.2 dX12_given_62
  have J31 : ∀ (vc31 : Int → Int → Int) (H : Heap) (locs : List Loc) (ls : Array Slot), fr K [(1, 3), (1, 7), (33, (-1)), (34, (-1)), (53, (-1)), (54, (-1)), (55, (-1)), (56, (-1)), (57, (-1)), (58, (-1))] vc31 v → xI L K N vc31 → va_P (dC, dI) vwCl (xG L cid K N vc31) H → va_D A (xG L cid K N vc31) → va_S A s.heap H locs → lv_has ls 6 [(0, .ref p0.toNat), (1, .int (iI p1)), (2, .int (iI p2)), (3, .int (iI p3)), (4, .int (iI p4))] → W p l e ({ frames := 7, cells := 0, slots := 0, locals := 186 }) s m ([.ref p0.toNat, .int (iI p1), .int (iI p2), .int (iI p3), .int (iI p4)] : List Value).toArray below meth c H locs 0 0 Q (F0 m 31 ls []) := by
    intro vc31 H locs ls f_22 I_23 hP hD hS hl
    refine lv_iconst (v := iI 0) hx hb dX12_given_31 rfl ?_
    exact J32 0 vc31 H locs ls (by omega) (fr_tr f_22 rfl fr_rf) I_23 hP hD hS hl
  refine xr_if_eq (tgt := 31) hx hb dX12_given_7 (by decide) (by omega) (fun h_24 => ?_) (fun h_24 => ?_)
  · exact J31 v H locs ls fr_rf hI hP hD hS hl
  · refine lv_aload_n hx hb dX12_given_10 rfl (lv_at hl 0 rfl) ?_
    refine lv_iload_n hx hb dX12_given_11 rfl (lv_at hl 2 rfl) ?_
    refine lv_iload_n hx hb dX12_given_12 rfl (lv_at hl 3 rfl) ?_
    refine jcg_i (va_runV (As := [.int (iI p2), .int (iI p3)]) (rest := []) ⟨hx, hb, hml, hown, hts⟩ (sX12_addHands l dC dI _ L cid K N tW sK sV v p0 p2 p3 hI q0 (by omega) (by omega)) (cwV 2 hts (jgoodV m_1242 m_1243 m_1244 m_873 m_1245) rfl rfl rfl (by decide +kernel) ⟨(Nat.le_of_ble_eq_true rfl), (Nat.le_of_ble_eq_true rfl)⟩) ⟨xP_blind, xrecv hK hP q0 rfl rfl, fun U hU hW => ⟨rfl, xP_of hU hW hP hK hD hX hS (fun _ h => h) hA⟩⟩ rfl rfl hl.1 rfl (lv_room (Nat.le_of_ble_eq_true rfl)) dX12_given_13 ⟨(Nat.le_of_ble_eq_true rfl), (Nat.le_of_ble_eq_true rfl)⟩) hD hS hA (fun r_25 v_29 H locs w_26 hP hK hD hS => ?_)
    obtain ⟨z_27, rfl, I_31, f_30, h_28⟩ := w_26
    have hP : va_P (dC, dI) vwCl (xG L cid K N v_29) H := hP
    have hD : va_D A (xG L cid K N v_29) := hD
    refine xr_if_eq (tgt := 31) hx hb dX12_given_16 (by decide) (by omega) (fun h_32 => ?_) (fun h_32 => ?_)
    · exact J31 v_29 H locs ls (fr_tr f_30 rfl fr_rf) I_31 hP hD hS hl
    · refine lv_aload_n hx hb dX12_given_19 rfl (lv_at hl 0 rfl) ?_
      refine lv_iload_n hx hb dX12_given_20 rfl (lv_at hl 1 rfl) ?_
      refine jcg_i (va_runV (As := [.int (iI p1)]) (rest := []) ⟨hx, hb, hml, hown, hts⟩ (sX12_addArticles l dC dI _ L cid K N tW sK sV v_29 p0 p1 I_31 q0 (by omega)) (cwV 1 hts (jgoodV m_1246 m_1247 m_1248 m_873 m_1249) rfl rfl rfl (by decide +kernel) ⟨(Nat.le_of_ble_eq_true rfl), (Nat.le_of_ble_eq_true rfl)⟩) ⟨xP_blind, xrecv hK hP q0 rfl rfl, fun U hU hW => ⟨rfl, xP_of hU hW hP hK hD hX hS (fun _ h => h) hA⟩⟩ rfl rfl hl.1 rfl (lv_room (Nat.le_of_ble_eq_true rfl)) dX12_given_21 ⟨(Nat.le_of_ble_eq_true rfl), (Nat.le_of_ble_eq_true rfl)⟩) hD hS hA (fun r_33 v_37 H locs w_34 hP hK hD hS => ?_)
      obtain ⟨z_35, rfl, I_39, f_38, h_36⟩ := w_34
      have hP : va_P (dC, dI) vwCl (xG L cid K N v_37) H := hP
      have hD : va_D A (xG L cid K N v_37) := hD
      refine xr_if_eq (tgt := 31) hx hb dX12_given_24 (by decide) (by omega) (fun h_40 => ?_) (fun h_40 => ?_)
      · exact J31 v_37 H locs ls (fr_tr f_38 rfl (fr_tr f_30 rfl fr_rf)) I_39 hP hD hS hl
      · refine lv_iconst (v := iI 1) hx hb dX12_given_27 rfl ?_
        refine lv_goto (tgt := 32) hx hb dX12_given_28 (by decide) ?_
        exact J32 1 v_37 H locs ls (by omega) (fr_tr f_38 rfl (fr_tr f_30 rfl fr_rf)) I_39 hP hD hS hl
set_option maxHeartbeats 2000000 in
set_option maxRecDepth 100000 in
theorem sX12_index (l : Launch) (dC : Nat → ClassId) (dI : Nat → Nat → Nat) (sz : Nat) (L : List Nat) (cid : Nat → ClassId) (K : Int → Nat) (N : Int → Int) (tW : Nat) (sK sV : Nat → Nat) (v : Int → Int → Int) (p0 : Int) (p1 : Int) (p2 : Int) (p3 : Int) (hI : xI L K N v) (q0 : ok L K p0 12) (q1 : rg p1) (q2 : rg p2) (q3 : rg p3) : Met l yX12_index (jk yX12_index cX12_index 9 (some .int)) ({ frames := 3, cells := 0, slots := 0, locals := 64 }) (va_Pc [.ref p0.toNat, .int (iI p1), .int (iI p2), .int (iI p3)] (xP (dC, dI) (xG L cid K N v) (xT cid) tW sK sV sz)) (va_Qi (fun (r : Int32) (_ : Unit) => ∃ z : Int, r = iI z ∧ (rg z)) (fun _ _ => True) (va_A [] sz)) 0 0 (va_A [] sz) := by
  refine Met.ofW (cc := cX12_index) (maxL := 9) (ret := (some .int)) (by decide) rfl ?_
  intro p e s m args below meth c s₁ B hml hv
  obtain ⟨rfl, ⟨hsz, hP, hK, hD0⟩, hX⟩ := hv
  have hx := B.exec
  have hb := B.bytes
  have hr := B.returns
  have hts := atoms_spec (ws := (jk yX12_index cX12_index 9 (some .int))) B.pre
  have hj : ∀ w ∈ jw, w.before ([.ref p0.toNat, .int (iI p1), .int (iI p2), .int (iI p3)] : List Value).toArray s = true := fun w h => hts w (jm h)
  have hown : s.vm.findClass RX12 = some m.cls := findClass_of_methodNamed B.named
  subst hsz
  have hDw := hD0.self (sz := s.heap.size)
  have hAA : ∀ q : Nat, s.heap.size ≤ q → va_A (xG L cid K N v) s.heap.size q := fun q h => Or.inr h
  have hAw : ∀ q, va_A [] s.heap.size q → va_A (xG L cid K N v) s.heap.size q := ja_nil va_S.rf hAA
  generalize hAe : (va_A [] s.heap.size) = A at hAw ⊢
  have hA : ∀ q : Nat, s.heap.size ≤ q → A q := fun q h => by rw [← hAe]; exact Or.inr h
  have hS : va_S A s.heap s.heap [] := va_S.rf
  have hXa := hX.nar hAw
  have hP : va_P (dC, dI) vwCl (xG L cid K N v) s.heap := hP
  have hl := lv_entry ([.ref p0.toNat, .int (iI p1), .int (iI p2), .int (iI p3)]) (n := 9) (Nat.le_of_ble_eq_true rfl)
  rw [lg_entry_eq]
  generalize (lg_sl ([.ref p0.toNat, .int (iI p1), .int (iI p2), .int (iI p3)]) ++ List.replicate (9 - (lg_sl ([.ref p0.toNat, .int (iI p1), .int (iI p2), .int (iI p3)])).length) Slot.unset).toArray = ls at hl ⊢
  have hl : lv_has ls 9 [(0, .ref p0.toNat), (1, .int (iI p1)), (2, .int (iI p2)), (3, .int (iI p3))] := hl
  generalize hQ : MQ below (va_Qi (fun (r : Int32) (_ : Unit) => ∃ z : Int, r = iI z ∧ (rg z)) (fun _ _ => True) A) ([.ref p0.toNat, .int (iI p1), .int (iI p2), .int (iI p3)] : List Value).toArray s 0 0 A = Q
  suffices ST : ∀ (H : Heap) (locs : List Loc), va_P (dC, dI) vwCl (xG L cid K N v) H → va_S A s.heap H locs → W p l e ({ frames := 3, cells := 0, slots := 0, locals := 64 }) s m ([.ref p0.toNat, .int (iI p1), .int (iI p2), .int (iI p3)] : List Value).toArray below meth c H locs 0 0 Q (F0 m 0 ls []) from ST _ _ hP hS
  clear hP hS
  intro H locs hP hS
  refine lv_aload_n hx hb dX12_index_0 rfl (lv_at hl 0 rfl) ?_
  refine lv_iload_n hx hb dX12_index_1 rfl (lv_at hl 2 rfl) ?_
  refine jc_q (va_runV (As := [.int (iI p2)]) (rest := []) ⟨hx, hb, hml, hown, hts⟩ (sX12_setVolumeAt l dC dI _ L cid K N tW sK sV v p0 p2 hI q0 (by omega)) (cwV 1 hts (jgoodV m_1174 m_1175 m_1176 m_873 m_1177) rfl rfl rfl (by decide +kernel) ⟨(Nat.le_of_ble_eq_true rfl), (Nat.le_of_ble_eq_true rfl)⟩) ⟨xP_blind, xrecv hK hP q0 rfl rfl, fun U hU hW => ⟨rfl, xP_of hU hW hP hK hDw hX hS hAw hAA⟩⟩ rfl rfl hl.1 rfl (lv_room (Nat.le_of_ble_eq_true rfl)) dX12_index_2 ⟨(Nat.le_of_ble_eq_true rfl), (Nat.le_of_ble_eq_true rfl)⟩) hP hS hA (fun r_1 H locs w_2 hP hS => ?_)
  obtain ⟨z_3, rfl, h_4⟩ := w_2
  refine jt_q (rv z_3) rfl ?_
  refine xq_astore (i := 4) (lv' := [(4, rv z_3), (0, .ref p0.toNat), (1, .int (iI p1)), (2, .int (iI p2)), (3, .int (iI p3))]) hx hb dX12_index_5 hl (by decide) rfl (fun ls hl => ?_)
  refine xq_aload hx hb dX12_index_7 (lv_at hl 0 rfl) ?_
  refine xq_ifnull (tgt := 16) hx hb dX12_index_9 (by decide) (fun h_5 => ?_) (fun h_5 => ?_)
  · refine lv_iconst (v := iI (-1)) hx hb dX12_index_16 rfl ?_
    rw [← hQ]
    exact W.iret (v := iI (-1)) hx hb hr (fun t ht hW => ⟨⟨iI (-1), (), rfl, ⟨(-1), rfl, by omega⟩, trivial⟩, hS.F ht⟩) hS.2.2 dX12_index_17
  · have h_6 : ok L K z_3 11 := h_4.resolve_left (by omega)
    refine lv_iload_n hx hb dX12_index_12 rfl (lv_at hl 4 rfl) ?_
    refine xr_if_ge (tgt := 18) hx hb dX12_index_13 (by decide) (by omega) (fun h_7 => ?_) (fun h_7 => ?_)
    · refine lv_iconst (v := iI (-1)) hx hb dX12_index_18 rfl ?_
      refine lv_istore (i := 5) (lv' := [(5, .int (iI (-1))), (4, rv z_3), (0, .ref p0.toNat), (1, .int (iI p1)), (2, .int (iI p2)), (3, .int (iI p3))]) hx hb dX12_index_19 hl (by decide) (by simp [rv_cat]) (fun ls hl => ?_)
      refine lv_iconst (v := iI 0) hx hb dX12_index_21 rfl ?_
      refine lv_istore (i := 6) (lv' := [(6, .int (iI 0)), (5, .int (iI (-1))), (4, rv z_3), (0, .ref p0.toNat), (1, .int (iI p1)), (2, .int (iI p2)), (3, .int (iI p3))]) hx hb dX12_index_22 hl (by decide) rfl (fun ls hl => ?_)
      refine lv_iconst (v := iI 0) hx hb dX12_index_24 rfl ?_
      refine lv_istore (i := 7) (lv' := [(7, .int (iI 0)), (6, .int (iI 0)), (5, .int (iI (-1))), (4, rv z_3), (0, .ref p0.toNat), (1, .int (iI p1)), (2, .int (iI p2)), (3, .int (iI p3))]) hx hb dX12_index_25 hl (by decide) rfl (fun ls hl => ?_)
      have L27 : ∀ (n27 : Nat) (a7_27 a6_27 a5_27 : Int) (H : Heap) (locs : List Loc) (ls : Array Slot), (0 ≤ a7_27 ∧ a7_27 ≤ 2147483647) → ((-2147483648) ≤ a6_27 ∧ a6_27 ≤ 2147483647) → ((-2147483648) ≤ a5_27 ∧ a5_27 ≤ 2147483647) → (0 < (n27 : Int) ∧ (v z_3 4) - a7_27 < (n27 : Int)) → va_P (dC, dI) vwCl (xG L cid K N v) H → va_S A s.heap H locs → lv_has ls 9 [(7, .int (iI a7_27)), (6, .int (iI a6_27)), (5, .int (iI a5_27)), (4, rv z_3), (0, .ref p0.toNat), (1, .int (iI p1)), (2, .int (iI p2)), (3, .int (iI p3))] → W p l e ({ frames := 3, cells := 0, slots := 0, locals := 64 }) s m ([.ref p0.toNat, .int (iI p1), .int (iI p2), .int (iI p3)] : List Value).toArray below meth c H locs 0 0 Q (F0 m 27 ls []) := by
        intro n27
        induction n27 with
        | zero =>
          intro a7_27 a6_27 a5_27 H locs ls h_8 h_9 h_10 hm27 hP hS hl
          exfalso; omega
        | succ n27 ih27 =>
          intro a7_27 a6_27 a5_27 H locs ls h_11 h_12 h_13 hm27 hP hS hl
          refine lv_iload hx hb dX12_index_27 (lv_at hl 0 rfl) ?_
          refine xq_aload hx hb dX12_index_29 (lv_at hl 3 rfl) ?_
          refine jt_q (.ref z_3.toNat) (rv_ref (h_6).1) ?_
          have h_14 : 0 ≤ v z_3 4 ∧ v z_3 4 ≤ 12000 := xf_11_4 hI h_6
          refine gx_RX12_563 (y := v z_3 4) hx hb hj hown hK hP h_6 rfl dX12_index_31 ?_
          refine xr_icmp_ge (tgt := 110) hx hb dX12_index_34 (by decide) (by omega) (by omega) (fun h_15 => ?_) (fun h_15 => ?_)
          · refine lv_iconst (v := iI (-1)) hx hb dX12_index_110 rfl ?_
            rw [← hQ]
            exact W.iret (v := iI (-1)) hx hb hr (fun t ht hW => ⟨⟨iI (-1), (), rfl, ⟨(-1), rfl, by omega⟩, trivial⟩, hS.F ht⟩) hS.2.2 dX12_index_111
          · refine lv_aload_n hx hb dX12_index_37 rfl (lv_at hl 4 rfl) ?_
            refine xq_aload hx hb dX12_index_38 (lv_at hl 3 rfl) ?_
            refine jt_q (.ref z_3.toNat) (rv_ref (h_6).1) ?_
            refine lv_iload hx hb dX12_index_40 (lv_at hl 0 rfl) ?_
            refine jc_i (va_runV (As := [.int (iI a7_27)]) (rest := [.ref p0.toNat]) ⟨hx, hb, hml, hown, hts⟩ (sX11_laidAt l dC dI _ L cid K N tW sK sV v z_3 a7_27 hI h_6 (by omega)) (cwV 1 hts (jgoodV m_1258 m_1259 m_1260 m_1156 m_1261) rfl rfl rfl (by decide +kernel) ⟨(Nat.le_of_ble_eq_true rfl), (Nat.le_of_ble_eq_true rfl)⟩) ⟨xP_blind, xrecv hK hP h_6 rfl rfl, fun U hU hW => ⟨rfl, xP_of hU hW hP hK hDw hX hS hAw hAA⟩⟩ rfl rfl hl.1 rfl (lv_room (Nat.le_of_ble_eq_true rfl)) dX12_index_42 ⟨(Nat.le_of_ble_eq_true rfl), (Nat.le_of_ble_eq_true rfl)⟩) hP hS hA (fun r_16 H locs w_17 hP hS => ?_)
            obtain ⟨z_18, rfl, h_19⟩ := w_17
            refine jc_q (va_runV (As := [.int (iI z_18)]) (rest := []) ⟨hx, hb, hml, hown, hts⟩ (sX12_lineAt l dC dI _ L cid K N tW sK sV v p0 z_18 hI q0 (by omega)) (cwV 1 hts (jgoodV m_1109 m_1110 m_1111 m_873 m_1112) rfl rfl rfl (by decide +kernel) ⟨(Nat.le_of_ble_eq_true rfl), (Nat.le_of_ble_eq_true rfl)⟩) ⟨xP_blind, xrecv hK hP q0 rfl rfl, fun U hU hW => ⟨rfl, xP_of hU hW hP hK hDw hX hS hAw hAA⟩⟩ rfl rfl hl.1 rfl (lv_room (Nat.le_of_ble_eq_true rfl)) dX12_index_45 ⟨(Nat.le_of_ble_eq_true rfl), (Nat.le_of_ble_eq_true rfl)⟩) hP hS hA (fun r_20 H locs w_21 hP hS => ?_)
            obtain ⟨z_22, rfl, h_23⟩ := w_21
            refine jt_q (rv z_22) rfl ?_
            refine xq_astore (i := 8) (lv' := [(8, rv z_22), (7, .int (iI a7_27)), (6, .int (iI a6_27)), (5, .int (iI a5_27)), (4, rv z_3), (0, .ref p0.toNat), (1, .int (iI p1)), (2, .int (iI p2)), (3, .int (iI p3))]) hx hb dX12_index_48 hl (by decide) rfl (fun ls hl => ?_)
            refine xq_aload hx hb dX12_index_50 (lv_at hl 0 rfl) ?_
            have J104 : ∀ (a6_104 a5_104 : Int) (H : Heap) (locs : List Loc) (ls : Array Slot), ((-2147483648) ≤ a6_104 ∧ a6_104 ≤ 2147483647) → ((-2147483648) ≤ a5_104 ∧ a5_104 ≤ 2147483647) → va_P (dC, dI) vwCl (xG L cid K N v) H → va_S A s.heap H locs → lv_has ls 9 [(8, rv z_22), (7, .int (iI a7_27)), (6, .int (iI a6_104)), (5, .int (iI a5_104)), (4, rv z_3), (0, .ref p0.toNat), (1, .int (iI p1)), (2, .int (iI p2)), (3, .int (iI p3))] → W p l e ({ frames := 3, cells := 0, slots := 0, locals := 64 }) s m ([.ref p0.toNat, .int (iI p1), .int (iI p2), .int (iI p3)] : List Value).toArray below meth c H locs 0 0 Q (F0 m 104 ls []) := by
              intro a6_104 a5_104 H locs ls h_24 h_25 hP hS hl
              refine lv_iinc (v := iI (a7_27 + 1)) (lv' := [(7, .int (iI (a7_27 + 1))), (8, rv z_22), (6, .int (iI a6_104)), (5, .int (iI a5_104)), (4, rv z_3), (0, .ref p0.toNat), (1, .int (iI p1)), (2, .int (iI p2)), (3, .int (iI p3))]) hx hb dX12_index_104 hl (k := 1) rfl (iI_add _ _) (by decide) rfl (fun ls hl => ?_)
              refine lv_goto (tgt := 27) hx hb dX12_index_107 (by decide) ?_
              exact ih27 (a7_27 + 1) a6_104 a5_104 H locs ls (by omega) (by omega) (by omega) (by omega) hP hS (lv_sub hl [0, 2, 3, 4, 5, 6, 7, 8] rfl)
            refine xq_ifnull (tgt := 104) hx hb dX12_index_52 (by decide) (fun h_26 => ?_) (fun h_26 => ?_)
            · exact J104 a6_27 a5_27 H locs ls (by omega) (by omega) hP hS hl
            · have h_27 : ok L K z_22 4 := h_23.resolve_left (by omega)
              refine xq_aload hx hb dX12_index_55 (lv_at hl 0 rfl) ?_
              refine jt_q (.ref z_22.toNat) (rv_ref (h_27).1) ?_
              have h_28 : (-2147483648) ≤ v z_22 2 ∧ v z_22 2 ≤ 2147483647 := xf_4_2 hI h_27
              refine gx_RX12_569 (y := v z_22 2) hx hb hj hown hK hP h_27 rfl dX12_index_57 ?_
              refine lv_iload_n hx hb dX12_index_60 rfl (lv_at hl 6 rfl) ?_
              refine xr_icmp_ne (tgt := 104) hx hb dX12_index_61 (by decide) (by omega) (by omega) (fun h_29 => ?_) (fun h_29 => ?_)
              · exact J104 a6_27 a5_27 H locs ls (by omega) (by omega) hP hS hl
              · refine lv_aload_n hx hb dX12_index_64 rfl (lv_at hl 5 rfl) ?_
                refine xq_aload hx hb dX12_index_65 (lv_at hl 0 rfl) ?_
                refine jt_q (.ref z_22.toNat) (rv_ref (h_27).1) ?_
                have h_30 : (-2147483648) ≤ v z_22 7 ∧ v z_22 7 ≤ 2147483647 := xf_4_7 hI h_27
                refine gx_RX12_436 (y := v z_22 7) hx hb hj hown hK hP h_27 rfl dX12_index_67 ?_
                refine jc_i (va_runV (As := [.int (iI (v z_22 7))]) (rest := []) ⟨hx, hb, hml, hown, hts⟩ (sX12_pageOf l dC dI _ p0 (v z_22 7) (by omega)) (cwV 1 hts (jgoodV m_1145 m_1146 m_1147 m_873 m_1148) rfl rfl rfl (by decide +kernel) ⟨(Nat.le_of_ble_eq_true rfl), (Nat.le_of_ble_eq_true rfl)⟩) ⟨jw_blind0, xrecv hK hP q0 rfl rfl, fun U hU hW => ⟨rfl, congrArg Array.size hU⟩⟩ rfl rfl hl.1 rfl (lv_room (Nat.le_of_ble_eq_true rfl)) dX12_index_70 ⟨(Nat.le_of_ble_eq_true rfl), (Nat.le_of_ble_eq_true rfl)⟩) hP hS hA (fun r_31 H locs w_32 hP hS => ?_)
                obtain ⟨z_33, rfl, h_34⟩ := w_32
                refine lv_iload hx hb dX12_index_73 (lv_at hl 3 rfl) ?_
                refine xr_icmp_ne (tgt := 81) hx hb dX12_index_75 (by decide) (by omega) (by omega) (fun h_35 => ?_) (fun h_35 => ?_)
                · refine lv_aload_n hx hb dX12_index_81 rfl (lv_at hl 5 rfl) ?_
                  refine xq_aload hx hb dX12_index_82 (lv_at hl 0 rfl) ?_
                  refine jt_q (.ref z_22.toNat) (rv_ref (h_27).1) ?_
                  refine gx_RX12_436 (y := v z_22 7) hx hb hj hown hK hP h_27 rfl dX12_index_84 ?_
                  refine jc_i (va_runV (As := [.int (iI (v z_22 7))]) (rest := []) ⟨hx, hb, hml, hown, hts⟩ (sX12_pageOf l dC dI _ p0 (v z_22 7) (by omega)) (cwV 1 hts (jgoodV m_1145 m_1146 m_1147 m_873 m_1148) rfl rfl rfl (by decide +kernel) ⟨(Nat.le_of_ble_eq_true rfl), (Nat.le_of_ble_eq_true rfl)⟩) ⟨jw_blind0, xrecv hK hP q0 rfl rfl, fun U hU hW => ⟨rfl, congrArg Array.size hU⟩⟩ rfl rfl hl.1 rfl (lv_room (Nat.le_of_ble_eq_true rfl)) dX12_index_87 ⟨(Nat.le_of_ble_eq_true rfl), (Nat.le_of_ble_eq_true rfl)⟩) hP hS hA (fun r_36 H locs w_37 hP hS => ?_)
                  obtain ⟨z_38, rfl, h_39⟩ := w_37
                  refine lv_istore (i := 5) (lv' := [(5, .int (iI z_38)), (8, rv z_22), (7, .int (iI a7_27)), (6, .int (iI a6_27)), (4, rv z_3), (0, .ref p0.toNat), (1, .int (iI p1)), (2, .int (iI p2)), (3, .int (iI p3))]) hx hb dX12_index_90 hl (by decide) (by simp [rv_cat]) (fun ls hl => ?_)
                  refine lv_iload hx hb dX12_index_92 (lv_at hl 3 rfl) ?_
                  refine lv_iload_n hx hb dX12_index_94 rfl (lv_at hl 8 rfl) ?_
                  refine xr_icmp_ne (tgt := 101) hx hb dX12_index_95 (by decide) (by omega) (by omega) (fun h_40 => ?_) (fun h_40 => ?_)
                  · refine lv_iinc (v := iI (a6_27 + 1)) (lv' := [(6, .int (iI (a6_27 + 1))), (5, .int (iI z_38)), (8, rv z_22), (7, .int (iI a7_27)), (4, rv z_3), (0, .ref p0.toNat), (1, .int (iI p1)), (2, .int (iI p2)), (3, .int (iI p3))]) hx hb dX12_index_101 hl (k := 3) rfl (iI_add _ _) (by decide) rfl (fun ls hl => ?_)
                    obtain ⟨z_41, h_42, h_43, e9⟩ := xr_keep (a6_27 + 1)
                    rw [e9] at hl
                    exact J104 z_41 z_38 H locs ls (by omega) (by omega) hP hS (lv_sub hl [2, 3, 0, 1, 4, 5, 6, 7, 8] rfl)
                  · refine lv_iload hx hb dX12_index_98 (lv_at hl 0 rfl) ?_
                    rw [← hQ]
                    exact W.iret (v := iI z_38) hx hb hr (fun t ht hW => ⟨⟨iI z_38, (), rfl, ⟨z_38, rfl, by omega⟩, trivial⟩, hS.F ht⟩) hS.2.2 dX12_index_100
                · refine lv_goto (tgt := 104) hx hb dX12_index_78 (by decide) ?_
                  exact J104 a6_27 a5_27 H locs ls (by omega) (by omega) hP hS hl
      exact L27 ((((v z_3 4) - 0 : Int)).toNat + 1) 0 0 (-1) H locs ls (by omega) (by omega) (by omega) (by omega) hP hS hl
    · refine lv_iconst (v := iI (-1)) hx hb dX12_index_16 rfl ?_
      rw [← hQ]
      exact W.iret (v := iI (-1)) hx hb hr (fun t ht hW => ⟨⟨iI (-1), (), rfl, ⟨(-1), rfl, by omega⟩, trivial⟩, hS.F ht⟩) hS.2.2 dX12_index_17
set_option maxHeartbeats 2000000 in
set_option maxRecDepth 100000 in
theorem sX12_steal (l : Launch) (dC : Nat → ClassId) (dI : Nat → Nat → Nat) (sz : Nat) (L : List Nat) (cid : Nat → ClassId) (K : Int → Nat) (N : Int → Int) (tW : Nat) (sK sV : Nat → Nat) (v : Int → Int → Int) (p0 : Int) (p1 : Int) (hI : xI L K N v) (q0 : ok L K p0 12) (q1 : rg p1) : Met l yX12_steal (jk yX12_steal cX12_steal 2 (some .int)) ({ frames := 1, cells := 0, slots := 0, locals := 21 }) (va_Pc [.ref p0.toNat, .int (iI p1)] (xP (dC, dI) (xG L cid K N v) (xT cid) tW sK sV sz)) (va_Qi (fun (r : Int32) (u : (Int → Int → Int)) => ∃ z : Int, r = iI z ∧ (xI L K N u) ∧ (fr K [(10, 1), (61, (-1))] u v) ∧ (rg z) ∧ ((z = -1 ∧ u (u p0 19) 1 = v (v p0 19) 1 ∧ (p1 < 0 ∨ 999 < p1 ∨ 30 ≤ v (v p0 19) 1)) ∨ (z = v (v p0 19) 1 + 1 ∧ u (u p0 19) 1 = v (v p0 19) 1 + 1 ∧ 0 ≤ p1 ∧ p1 ≤ 999 ∧ v (v p0 19) 1 < 30))) (fun u t => va_P (dC, dI) vwCl (xG L cid K N u) t.heap ∧ va_K (dC, dI) vwCl (xT cid) t ∧ va_D (va_A (xG L cid K N v) sz) (xG L cid K N u)) (va_A (xG L cid K N v) sz)) 0 0 (va_A (xG L cid K N v) sz) := by
  refine Met.ofW (cc := cX12_steal) (maxL := 2) (ret := (some .int)) (by decide) rfl ?_
  intro p e s m args below meth c s₁ B hml hv
  obtain ⟨rfl, ⟨hsz, hP, hK, hD0⟩, hX⟩ := hv
  have hx := B.exec
  have hb := B.bytes
  have hr := B.returns
  have hts := atoms_spec (ws := (jk yX12_steal cX12_steal 2 (some .int))) B.pre
  have hj : ∀ w ∈ jw, w.before ([.ref p0.toNat, .int (iI p1)] : List Value).toArray s = true := fun w h => hts w (jm h)
  have hown : s.vm.findClass RX12 = some m.cls := findClass_of_methodNamed B.named
  subst hsz
  have hD := hD0.self (sz := s.heap.size)
  generalize hAe : (va_A (xG L cid K N v) s.heap.size) = A at hD hX ⊢
  have hA : ∀ q : Nat, s.heap.size ≤ q → A q := fun q h => by rw [← hAe]; exact Or.inr h
  have hS : va_S A s.heap s.heap [] := va_S.rf
  have hXa := hX
  have hP : va_P (dC, dI) vwCl (xG L cid K N v) s.heap := hP
  have hl := lv_entry ([.ref p0.toNat, .int (iI p1)]) (n := 2) (Nat.le_of_ble_eq_true rfl)
  rw [lg_entry_eq]
  generalize (lg_sl ([.ref p0.toNat, .int (iI p1)]) ++ List.replicate (2 - (lg_sl ([.ref p0.toNat, .int (iI p1)])).length) Slot.unset).toArray = ls at hl ⊢
  have hl : lv_has ls 2 [(0, .ref p0.toNat), (1, .int (iI p1))] := hl
  generalize hQ : MQ below (va_Qi (fun (r : Int32) (u : (Int → Int → Int)) => ∃ z : Int, r = iI z ∧ (xI L K N u) ∧ (fr K [(10, 1), (61, (-1))] u v) ∧ (rg z) ∧ ((z = -1 ∧ u (u p0 19) 1 = v (v p0 19) 1 ∧ (p1 < 0 ∨ 999 < p1 ∨ 30 ≤ v (v p0 19) 1)) ∨ (z = v (v p0 19) 1 + 1 ∧ u (u p0 19) 1 = v (v p0 19) 1 + 1 ∧ 0 ≤ p1 ∧ p1 ≤ 999 ∧ v (v p0 19) 1 < 30))) (fun u t => va_P (dC, dI) vwCl (xG L cid K N u) t.heap ∧ va_K (dC, dI) vwCl (xT cid) t ∧ va_D A (xG L cid K N u)) A) ([.ref p0.toNat, .int (iI p1)] : List Value).toArray s 0 0 A = Q
  suffices ST : ∀ (H : Heap) (locs : List Loc), va_P (dC, dI) vwCl (xG L cid K N v) H → va_S A s.heap H locs → W p l e ({ frames := 1, cells := 0, slots := 0, locals := 21 }) s m ([.ref p0.toNat, .int (iI p1)] : List Value).toArray below meth c H locs 0 0 Q (F0 m 0 ls []) from ST _ _ hP hS
  clear hP hS
  intro H locs hP hS
  refine lv_iload_n hx hb dX12_steal_0 rfl (lv_at hl 1 rfl) ?_
  refine xr_if_lt (tgt := 11) hx hb dX12_steal_1 (by decide) (by omega) (fun h_1 => ?_) (fun h_1 => ?_)
  · refine lv_iconst (v := iI (-1)) hx hb dX12_steal_11 rfl ?_
    refine lv_goto (tgt := 23) hx hb dX12_steal_12 (by decide) ?_
    have h_2 : ok L K (v p0 19) 10 := xf_12_19 hI q0
    have h_3 : 0 ≤ v (v p0 19) 1 ∧ v (v p0 19) 1 ≤ 30 := xf_10_1 hI h_2
    rw [← hQ]
    exact W.iret (v := iI (-1)) hx hb hr (fun t ht hW => ⟨⟨iI (-1), v, rfl, ⟨(-1), rfl, hI, fr_rf, by omega, by omega⟩, by rw [ht]; exact hP, va_K.moved hW.alike hK, hD⟩, hS.F ht⟩) hS.2.2 dX12_steal_23
  · refine lv_iload_n hx hb dX12_steal_4 rfl (lv_at hl 1 rfl) ?_
    refine lv_sipush (v := iI 999) hx hb dX12_steal_5 rfl ?_
    refine xr_icmp_le (tgt := 15) hx hb dX12_steal_8 (by decide) (by omega) (by omega) (fun h_4 => ?_) (fun h_4 => ?_)
    · refine lv_aload_n hx hb dX12_steal_15 rfl (lv_at hl 0 rfl) ?_
      have h_5 : ok L K (v p0 19) 10 := xf_12_19 hI q0
      refine gx_RX12_99 (y := v p0 19) hx hb hj hown hK hP q0 ((xf_12_19 hI q0).1) rfl dX12_steal_16 ?_
      refine lv_iload_n hx hb dX12_steal_19 rfl (lv_at hl 1 rfl) ?_
      refine jcg_i (va_runV (As := [.int (iI p1)]) (rest := []) ⟨hx, hb, hml, hown, hts⟩ (sX10_add l dC dI _ L cid K N tW sK sV v (v p0 19) p1 hI h_5 (by omega)) (cwV 1 hts (jgoodV m_1262 m_1263 m_1264 m_971 m_1265) rfl rfl rfl (by decide +kernel) ⟨(Nat.le_of_ble_eq_true rfl), (Nat.le_of_ble_eq_true rfl)⟩) ⟨xP_blind, xrecv hK hP h_5 rfl rfl, fun U hU hW => ⟨rfl, xP_of hU hW hP hK hD hX hS (fun _ h => h) hA⟩⟩ rfl rfl hl.1 rfl (lv_room (Nat.le_of_ble_eq_true rfl)) dX12_steal_20 ⟨(Nat.le_of_ble_eq_true rfl), (Nat.le_of_ble_eq_true rfl)⟩) hD hS hA (fun r_6 v_11 H locs w_7 hP hK hD hS => ?_)
      obtain ⟨z_8, rfl, I_13, f_12, h_9, h_10⟩ := w_7
      have hP : va_P (dC, dI) vwCl (xG L cid K N v_11) H := hP
      have hD : va_D A (xG L cid K N v_11) := hD
      have h_14 : 0 ≤ v_11 (v p0 19) 1 ∧ v_11 (v p0 19) 1 ≤ 30 := xf_10_1 I_13 h_5
      have h_15 : 0 ≤ v (v p0 19) 1 ∧ v (v p0 19) 1 ≤ 30 := xf_10_1 hI h_5
      have b_16 : v_11 p0 19 = v p0 19 := (fr_use q0 f_12 rfl)
      have b_17 : v_11 (v_11 p0 19) 1 = v_11 (v p0 19) 1 := by rw [b_16]
      rw [← hQ]
      exact W.iret (v := iI z_8) hx hb hr (fun t ht hW => ⟨⟨iI z_8, v_11, rfl, ⟨z_8, rfl, I_13, (fr_tr f_12 rfl fr_rf), by omega, by omega⟩, by rw [ht]; exact hP, va_K.moved hW.alike hK, hD⟩, hS.F ht⟩) hS.2.2 dX12_steal_23
    · refine lv_iconst (v := iI (-1)) hx hb dX12_steal_11 rfl ?_
      refine lv_goto (tgt := 23) hx hb dX12_steal_12 (by decide) ?_
      have h_18 : ok L K (v p0 19) 10 := xf_12_19 hI q0
      have h_19 : 0 ≤ v (v p0 19) 1 ∧ v (v p0 19) 1 ≤ 30 := xf_10_1 hI h_18
      rw [← hQ]
      exact W.iret (v := iI (-1)) hx hb hr (fun t ht hW => ⟨⟨iI (-1), v, rfl, ⟨(-1), rfl, hI, fr_rf, by omega, by omega⟩, by rw [ht]; exact hP, va_K.moved hW.alike hK, hD⟩, hS.F ht⟩) hS.2.2 dX12_steal_23
set_option maxHeartbeats 2000000 in
set_option maxRecDepth 100000 in
theorem sX12_forget (l : Launch) (dC : Nat → ClassId) (dI : Nat → Nat → Nat) (sz : Nat) (L : List Nat) (cid : Nat → ClassId) (K : Int → Nat) (N : Int → Int) (tW : Nat) (sK sV : Nat → Nat) (v : Int → Int → Int) (p0 : Int) (hI : xI L K N v) (q0 : ok L K p0 12) : Met l yX12_forget (jk yX12_forget cX12_forget 2 (some .int)) ({ frames := 0, cells := 0, slots := 0, locals := 0 }) (va_Pc [.ref p0.toNat] (xP (dC, dI) (xG L cid K N v) (xT cid) tW sK sV sz)) (va_Qi (fun (r : Int32) (u : (Int → Int → Int)) => ∃ z : Int, r = iI z ∧ (xI L K N u) ∧ (fr K [(10, 1)] u v) ∧ (rg z) ∧ (z = v (v p0 19) 1 ∧ u (u p0 19) 1 = 0)) (fun u t => va_P (dC, dI) vwCl (xG L cid K N u) t.heap ∧ va_K (dC, dI) vwCl (xT cid) t ∧ va_D (va_A (xG L cid K N v) sz) (xG L cid K N u)) (va_A (xG L cid K N v) sz)) 0 0 (va_A (xG L cid K N v) sz) := by
  refine Met.ofW (cc := cX12_forget) (maxL := 2) (ret := (some .int)) (by decide) rfl ?_
  intro p e s m args below meth c s₁ B hml hv
  obtain ⟨rfl, ⟨hsz, hP, hK, hD0⟩, hX⟩ := hv
  have hx := B.exec
  have hb := B.bytes
  have hr := B.returns
  have hts := atoms_spec (ws := (jk yX12_forget cX12_forget 2 (some .int))) B.pre
  have hj : ∀ w ∈ jw, w.before ([.ref p0.toNat] : List Value).toArray s = true := fun w h => hts w (jm h)
  have hown : s.vm.findClass RX12 = some m.cls := findClass_of_methodNamed B.named
  subst hsz
  have hD := hD0.self (sz := s.heap.size)
  generalize hAe : (va_A (xG L cid K N v) s.heap.size) = A at hD hX ⊢
  have hA : ∀ q : Nat, s.heap.size ≤ q → A q := fun q h => by rw [← hAe]; exact Or.inr h
  have hS : va_S A s.heap s.heap [] := va_S.rf
  have hXa := hX
  have hP : va_P (dC, dI) vwCl (xG L cid K N v) s.heap := hP
  have hl := lv_entry ([.ref p0.toNat]) (n := 2) (Nat.le_of_ble_eq_true rfl)
  rw [lg_entry_eq]
  generalize (lg_sl ([.ref p0.toNat]) ++ List.replicate (2 - (lg_sl ([.ref p0.toNat])).length) Slot.unset).toArray = ls at hl ⊢
  have hl : lv_has ls 2 [(0, .ref p0.toNat)] := hl
  generalize hQ : MQ below (va_Qi (fun (r : Int32) (u : (Int → Int → Int)) => ∃ z : Int, r = iI z ∧ (xI L K N u) ∧ (fr K [(10, 1)] u v) ∧ (rg z) ∧ (z = v (v p0 19) 1 ∧ u (u p0 19) 1 = 0)) (fun u t => va_P (dC, dI) vwCl (xG L cid K N u) t.heap ∧ va_K (dC, dI) vwCl (xT cid) t ∧ va_D A (xG L cid K N u)) A) ([.ref p0.toNat] : List Value).toArray s 0 0 A = Q
  suffices ST : ∀ (H : Heap) (locs : List Loc), va_P (dC, dI) vwCl (xG L cid K N v) H → va_S A s.heap H locs → W p l e ({ frames := 0, cells := 0, slots := 0, locals := 0 }) s m ([.ref p0.toNat] : List Value).toArray below meth c H locs 0 0 Q (F0 m 0 ls []) from ST _ _ hP hS
  clear hP hS
  intro H locs hP hS
  refine lv_aload_n hx hb dX12_forget_0 rfl (lv_at hl 0 rfl) ?_
  have h_1 : ok L K (v p0 19) 10 := xf_12_19 hI q0
  refine gx_RX12_99 (y := v p0 19) hx hb hj hown hK hP q0 ((xf_12_19 hI q0).1) rfl dX12_forget_1 ?_
  have h_2 : 0 ≤ v (v p0 19) 1 ∧ v (v p0 19) 1 ≤ 30 := xf_10_1 hI h_1
  refine gx_RX12_574 (y := v (v p0 19) 1) hx hb hj hown hK hP h_1 rfl dX12_forget_4 ?_
  refine lv_istore_n (i := 1) (lv' := [(1, .int (iI (v (v p0 19) 1))), (0, .ref p0.toNat)]) hx hb dX12_forget_7 rfl hl (by decide) rfl (fun ls hl => ?_)
  refine lv_aload_n hx hb dX12_forget_8 rfl (lv_at hl 1 rfl) ?_
  refine gx_RX12_99 (y := v p0 19) hx hb hj hown hK hP q0 ((xf_12_19 hI q0).1) rfl dX12_forget_9 ?_
  refine lv_iconst (v := iI 0) hx hb dX12_forget_12 rfl ?_
  refine px_RX12_574 (y := 0) hx hb hj hown hK hP hD hS hI h_1 ⟨by omega, by omega⟩ dX12_forget_13 (fun v_3 H locs f_4 e_5 o_6 I_7 hP hD hS => ?_)
  refine lv_iload_n hx hb dX12_forget_16 rfl (lv_at hl 0 rfl) ?_
  have b_8 : v_3 p0 19 = v p0 19 := (fr_use q0 f_4 rfl)
  have b_9 : v_3 (v p0 19) 1 = 0 := e_5
  have b_10 : v_3 (v_3 p0 19) 1 = 0 := by rw [b_8, b_9]
  rw [← hQ]
  exact W.iret (v := iI (v (v p0 19) 1)) hx hb hr (fun t ht hW => ⟨⟨iI (v (v p0 19) 1), v_3, rfl, ⟨v (v p0 19) 1, rfl, I_7, (fr_tr f_4 rfl fr_rf), by omega, by omega⟩, by rw [ht]; exact hP, va_K.moved hW.alike hK, hD⟩, hS.F ht⟩) hS.2.2 dX12_forget_17
set_option maxHeartbeats 2000000 in
set_option maxRecDepth 100000 in
theorem sX12_thief (l : Launch) (dC : Nat → ClassId) (dI : Nat → Nat → Nat) (sz : Nat) (L : List Nat) (cid : Nat → ClassId) (K : Int → Nat) (N : Int → Int) (tW : Nat) (sK sV : Nat → Nat) (v : Int → Int → Int) (p0 : Int) (p1 : Int) (p2 : Int) (hI : xI L K N v) (q0 : ok L K p0 12) (q1 : rg p1) (q2 : rg p2) : Met l yX12_thief (jk yX12_thief cX12_thief 6 (some .int)) ({ frames := 3, cells := 0, slots := 0, locals := 66 }) (va_Pc [.ref p0.toNat, .int (iI p1), .int (iI p2)] (xP (dC, dI) (xG L cid K N v) (xT cid) tW sK sV sz)) (va_Qi (fun (r : Int32) (u : (Int → Int → Int)) => ∃ z : Int, r = iI z ∧ (xI L K N u) ∧ (fr K [(62, (-1))] u v) ∧ (rg z)) (fun u t => va_P (dC, dI) vwCl (xG L cid K N u) t.heap ∧ va_K (dC, dI) vwCl (xT cid) t ∧ va_D (va_A (xG L cid K N v) sz) (xG L cid K N u)) (va_A (xG L cid K N v) sz)) 0 0 (va_A (xG L cid K N v) sz) := by
  refine Met.ofW (cc := cX12_thief) (maxL := 6) (ret := (some .int)) (by decide) rfl ?_
  intro p e s m args below meth c s₁ B hml hv
  obtain ⟨rfl, ⟨hsz, hP, hK, hD0⟩, hX⟩ := hv
  have hx := B.exec
  have hb := B.bytes
  have hr := B.returns
  have hts := atoms_spec (ws := (jk yX12_thief cX12_thief 6 (some .int))) B.pre
  have hj : ∀ w ∈ jw, w.before ([.ref p0.toNat, .int (iI p1), .int (iI p2)] : List Value).toArray s = true := fun w h => hts w (jm h)
  have hown : s.vm.findClass RX12 = some m.cls := findClass_of_methodNamed B.named
  subst hsz
  have hD := hD0.self (sz := s.heap.size)
  generalize hAe : (va_A (xG L cid K N v) s.heap.size) = A at hD hX ⊢
  have hA : ∀ q : Nat, s.heap.size ≤ q → A q := fun q h => by rw [← hAe]; exact Or.inr h
  have hS : va_S A s.heap s.heap [] := va_S.rf
  have hXa := hX
  have hP : va_P (dC, dI) vwCl (xG L cid K N v) s.heap := hP
  have hl := lv_entry ([.ref p0.toNat, .int (iI p1), .int (iI p2)]) (n := 6) (Nat.le_of_ble_eq_true rfl)
  rw [lg_entry_eq]
  generalize (lg_sl ([.ref p0.toNat, .int (iI p1), .int (iI p2)]) ++ List.replicate (6 - (lg_sl ([.ref p0.toNat, .int (iI p1), .int (iI p2)])).length) Slot.unset).toArray = ls at hl ⊢
  have hl : lv_has ls 6 [(0, .ref p0.toNat), (1, .int (iI p1)), (2, .int (iI p2))] := hl
  generalize hQ : MQ below (va_Qi (fun (r : Int32) (u : (Int → Int → Int)) => ∃ z : Int, r = iI z ∧ (xI L K N u) ∧ (fr K [(62, (-1))] u v) ∧ (rg z)) (fun u t => va_P (dC, dI) vwCl (xG L cid K N u) t.heap ∧ va_K (dC, dI) vwCl (xT cid) t ∧ va_D A (xG L cid K N u)) A) ([.ref p0.toNat, .int (iI p1), .int (iI p2)] : List Value).toArray s 0 0 A = Q
  suffices ST : ∀ (H : Heap) (locs : List Loc), va_P (dC, dI) vwCl (xG L cid K N v) H → va_S A s.heap H locs → W p l e ({ frames := 3, cells := 0, slots := 0, locals := 66 }) s m ([.ref p0.toNat, .int (iI p1), .int (iI p2)] : List Value).toArray below meth c H locs 0 0 Q (F0 m 0 ls []) from ST _ _ hP hS
  clear hP hS
  intro H locs hP hS
  refine lv_aload_n hx hb dX12_thief_0 rfl (lv_at hl 0 rfl) ?_
  refine lv_iload_n hx hb dX12_thief_1 rfl (lv_at hl 1 rfl) ?_
  refine jc_q (va_runV (As := [.int (iI p1)]) (rest := []) ⟨hx, hb, hml, hown, hts⟩ (sX12_setVolumeAt l dC dI _ L cid K N tW sK sV v p0 p1 hI q0 (by omega)) (cwV 1 hts (jgoodV m_1174 m_1175 m_1176 m_873 m_1177) rfl rfl rfl (by decide +kernel) ⟨(Nat.le_of_ble_eq_true rfl), (Nat.le_of_ble_eq_true rfl)⟩) ⟨xP_blind, xrecv hK hP q0 rfl rfl, fun U hU hW => ⟨rfl, xP_of hU hW hP hK hD hX hS (fun _ h => h) hA⟩⟩ rfl rfl hl.1 rfl (lv_room (Nat.le_of_ble_eq_true rfl)) dX12_thief_2 ⟨(Nat.le_of_ble_eq_true rfl), (Nat.le_of_ble_eq_true rfl)⟩) hP hS hA (fun r_1 H locs w_2 hP hS => ?_)
  obtain ⟨z_3, rfl, h_4⟩ := w_2
  refine jt_q (rv z_3) rfl ?_
  refine xq_astore_n (i := 3) (lv' := [(3, rv z_3), (0, .ref p0.toNat), (1, .int (iI p1)), (2, .int (iI p2))]) hx hb dX12_thief_5 rfl hl (by decide) rfl (fun ls hl => ?_)
  refine xq_aload_n hx hb dX12_thief_6 rfl (lv_at hl 0 rfl) ?_
  refine xq_ifnull (tgt := 19) hx hb dX12_thief_7 (by decide) (fun h_5 => ?_) (fun h_5 => ?_)
  · refine lv_iconst (v := iI (-1)) hx hb dX12_thief_19 rfl ?_
    rw [← hQ]
    exact W.iret (v := iI (-1)) hx hb hr (fun t ht hW => ⟨⟨iI (-1), v, rfl, ⟨(-1), rfl, hI, fr_rf, by omega⟩, by rw [ht]; exact hP, va_K.moved hW.alike hK, hD⟩, hS.F ht⟩) hS.2.2 dX12_thief_20
  · have h_6 : ok L K z_3 11 := h_4.resolve_left (by omega)
    refine lv_iload_n hx hb dX12_thief_10 rfl (lv_at hl 3 rfl) ?_
    refine xr_if_lt (tgt := 19) hx hb dX12_thief_11 (by decide) (by omega) (fun h_7 => ?_) (fun h_7 => ?_)
    · refine lv_iconst (v := iI (-1)) hx hb dX12_thief_19 rfl ?_
      rw [← hQ]
      exact W.iret (v := iI (-1)) hx hb hr (fun t ht hW => ⟨⟨iI (-1), v, rfl, ⟨(-1), rfl, hI, fr_rf, by omega⟩, by rw [ht]; exact hP, va_K.moved hW.alike hK, hD⟩, hS.F ht⟩) hS.2.2 dX12_thief_20
    · refine lv_iload_n hx hb dX12_thief_14 rfl (lv_at hl 3 rfl) ?_
      refine lv_iconst (v := iI 1) hx hb dX12_thief_15 rfl ?_
      refine xr_icmp_le (tgt := 21) hx hb dX12_thief_16 (by decide) (by omega) (by omega) (fun h_8 => ?_) (fun h_8 => ?_)
      · refine lv_aload_n hx hb dX12_thief_21 rfl (lv_at hl 1 rfl) ?_
        have h_9 : ok L K (v p0 19) 10 := xf_12_19 hI q0
        refine gx_RX12_99 (y := v p0 19) hx hb hj hown hK hP q0 ((xf_12_19 hI q0).1) rfl dX12_thief_22 ?_
        refine jcg_v (va_runV (As := []) (rest := []) ⟨hx, hb, hml, hown, hts⟩ (sX10_begin l dC dI _ L cid K N tW sK sV v (v p0 19) hI h_9) (cwV 0 hts (jgoodV m_1266 m_1267 m_1268 m_971 m_1269) rfl rfl rfl (by decide +kernel) ⟨(Nat.le_of_ble_eq_true rfl), (Nat.le_of_ble_eq_true rfl)⟩) ⟨xP_blind, xrecv hK hP h_9 rfl rfl, fun U hU hW => ⟨rfl, xP_of hU hW hP hK hD hX hS (fun _ h => h) hA⟩⟩ rfl rfl hl.1 rfl (lv_room (Nat.le_of_ble_eq_true rfl)) dX12_thief_25 ⟨(Nat.le_of_ble_eq_true rfl), (Nat.le_of_ble_eq_true rfl)⟩) hD hS hA (fun v_13 H locs w_11 hP hK hD hS => ?_)
        obtain ⟨I_15, f_14⟩ := w_11
        have hP : va_P (dC, dI) vwCl (xG L cid K N v_13) H := hP
        have hD : va_D A (xG L cid K N v_13) := hD
        refine lv_iconst (v := iI 0) hx hb dX12_thief_28 rfl ?_
        refine lv_istore (i := 4) (lv' := [(4, .int (iI 0)), (3, rv z_3), (0, .ref p0.toNat), (1, .int (iI p1)), (2, .int (iI p2))]) hx hb dX12_thief_29 hl (by decide) (by simp [rv_cat]) (fun ls hl => ?_)
        have L31 : ∀ (n31 : Nat) (a4_31 : Int) (vc31 : Int → Int → Int) (H : Heap) (locs : List Loc) (ls : Array Slot), (0 ≤ a4_31 ∧ a4_31 ≤ 2147483647) → (0 < (n31 : Int) ∧ (v z_3 4) - a4_31 < (n31 : Int)) → fr K [(62, (-1))] vc31 v_13 → xI L K N vc31 → va_P (dC, dI) vwCl (xG L cid K N vc31) H → va_D A (xG L cid K N vc31) → va_S A s.heap H locs → lv_has ls 6 [(4, .int (iI a4_31)), (3, rv z_3), (0, .ref p0.toNat), (1, .int (iI p1)), (2, .int (iI p2))] → W p l e ({ frames := 3, cells := 0, slots := 0, locals := 66 }) s m ([.ref p0.toNat, .int (iI p1), .int (iI p2)] : List Value).toArray below meth c H locs 0 0 Q (F0 m 31 ls []) := by
          intro n31
          induction n31 with
          | zero =>
            intro a4_31 vc31 H locs ls h_16 hm31 f_17 I_18 hP hD hS hl
            exfalso; omega
          | succ n31 ih31 =>
            intro a4_31 vc31 H locs ls h_19 hm31 f_20 I_21 hP hD hS hl
            refine lv_iload hx hb dX12_thief_31 (lv_at hl 0 rfl) ?_
            refine xq_aload_n hx hb dX12_thief_33 rfl (lv_at hl 1 rfl) ?_
            refine jt_q (.ref z_3.toNat) (rv_ref (h_6).1) ?_
            have h_22 : 0 ≤ v z_3 4 ∧ v z_3 4 ≤ 12000 := xf_11_4 hI h_6
            refine gx_RX12_563 (y := v z_3 4) hx hb hj hown hK hP h_6 (((fr_use h_6 f_20 rfl)).trans (fr_use h_6 f_14 rfl)) dX12_thief_34 ?_
            refine xr_icmp_ge (tgt := 113) hx hb dX12_thief_37 (by decide) (by omega) (by omega) (fun h_23 => ?_) (fun h_23 => ?_)
            · refine lv_iload_n hx hb dX12_thief_113 rfl (lv_at hl 4 rfl) ?_
              refine xr_if_ne (tgt := 127) hx hb dX12_thief_114 (by decide) (by omega) (fun h_24 => ?_) (fun h_24 => ?_)
              · refine lv_aload_n hx hb dX12_thief_127 rfl (lv_at hl 2 rfl) ?_
                refine gx_RX12_99 (y := v p0 19) hx hb hj hown hK hP q0 ((xf_12_19 I_21 q0).1) (((fr_use q0 f_20 rfl)).trans (fr_use q0 f_14 rfl)) dX12_thief_128 ?_
                refine jc_i (va_runV (As := []) (rest := []) ⟨hx, hb, hml, hown, hts⟩ (sX10_shared l dC dI _ L cid K N tW sK sV vc31 (v p0 19) I_21 h_9) (cwV 0 hts (jgoodV m_1270 m_1271 m_1272 m_971 m_1273) rfl rfl rfl (by decide +kernel) ⟨(Nat.le_of_ble_eq_true rfl), (Nat.le_of_ble_eq_true rfl)⟩) ⟨xP_blind, xrecv hK hP h_9 rfl rfl, fun U hU hW => ⟨rfl, xP_of hU hW hP hK hD hX hS (fun _ h => h) hA⟩⟩ rfl rfl hl.1 rfl (lv_room (Nat.le_of_ble_eq_true rfl)) dX12_thief_131 ⟨(Nat.le_of_ble_eq_true rfl), (Nat.le_of_ble_eq_true rfl)⟩) hP hS hA (fun r_25 H locs w_26 hP hS => ?_)
                obtain ⟨z_27, rfl, h_28⟩ := w_26
                rw [← hQ]
                exact W.iret (v := iI z_27) hx hb hr (fun t ht hW => ⟨⟨iI z_27, vc31, rfl, ⟨z_27, rfl, I_21, (fr_tr f_20 rfl (fr_tr f_14 rfl fr_rf)), by omega⟩, by rw [ht]; exact hP, va_K.moved hW.alike hK, hD⟩, hS.F ht⟩) hS.2.2 dX12_thief_134
              · refine lv_aload_n hx hb dX12_thief_117 rfl (lv_at hl 2 rfl) ?_
                refine gx_RX12_99 (y := v p0 19) hx hb hj hown hK hP q0 ((xf_12_19 I_21 q0).1) (((fr_use q0 f_20 rfl)).trans (fr_use q0 f_14 rfl)) dX12_thief_118 ?_
                refine jc_i (va_runV (As := []) (rest := []) ⟨hx, hb, hml, hown, hts⟩ (sX10_changes l dC dI _ L cid K N tW sK sV vc31 (v p0 19) I_21 h_9) (cwV 0 hts (jgoodV m_1274 m_974 m_975 m_971 m_976) rfl rfl rfl (by decide +kernel) ⟨(Nat.le_of_ble_eq_true rfl), (Nat.le_of_ble_eq_true rfl)⟩) ⟨xP_blind, xrecv hK hP h_9 rfl rfl, fun U hU hW => ⟨rfl, xP_of hU hW hP hK hD hX hS (fun _ h => h) hA⟩⟩ rfl rfl hl.1 rfl (lv_room (Nat.le_of_ble_eq_true rfl)) dX12_thief_121 ⟨(Nat.le_of_ble_eq_true rfl), (Nat.le_of_ble_eq_true rfl)⟩) hP hS hA (fun r_29 H locs w_30 hP hS => ?_)
                obtain ⟨z_31, rfl, h_32⟩ := w_30
                refine lv_goto (tgt := 134) hx hb dX12_thief_124 (by decide) ?_
                rw [← hQ]
                exact W.iret (v := iI z_31) hx hb hr (fun t ht hW => ⟨⟨iI z_31, vc31, rfl, ⟨z_31, rfl, I_21, (fr_tr f_20 rfl (fr_tr f_14 rfl fr_rf)), by omega⟩, by rw [ht]; exact hP, va_K.moved hW.alike hK, hD⟩, hS.F ht⟩) hS.2.2 dX12_thief_134
            · refine lv_aload_n hx hb dX12_thief_40 rfl (lv_at hl 2 rfl) ?_
              refine xq_aload_n hx hb dX12_thief_41 rfl (lv_at hl 1 rfl) ?_
              refine jt_q (.ref z_3.toNat) (rv_ref (h_6).1) ?_
              refine lv_iload hx hb dX12_thief_42 (lv_at hl 0 rfl) ?_
              refine jc_i (va_runV (As := [.int (iI a4_31)]) (rest := [.ref p0.toNat]) ⟨hx, hb, hml, hown, hts⟩ (sX11_laidAt l dC dI _ L cid K N tW sK sV vc31 z_3 a4_31 I_21 h_6 (by omega)) (cwV 1 hts (jgoodV m_1258 m_1259 m_1260 m_1156 m_1261) rfl rfl rfl (by decide +kernel) ⟨(Nat.le_of_ble_eq_true rfl), (Nat.le_of_ble_eq_true rfl)⟩) ⟨xP_blind, xrecv hK hP h_6 rfl rfl, fun U hU hW => ⟨rfl, xP_of hU hW hP hK hD hX hS (fun _ h => h) hA⟩⟩ rfl rfl hl.1 rfl (lv_room (Nat.le_of_ble_eq_true rfl)) dX12_thief_44 ⟨(Nat.le_of_ble_eq_true rfl), (Nat.le_of_ble_eq_true rfl)⟩) hP hS hA (fun r_33 H locs w_34 hP hS => ?_)
              obtain ⟨z_35, rfl, h_36⟩ := w_34
              refine jc_q (va_runV (As := [.int (iI z_35)]) (rest := []) ⟨hx, hb, hml, hown, hts⟩ (sX12_lineAt l dC dI _ L cid K N tW sK sV vc31 p0 z_35 I_21 q0 (by omega)) (cwV 1 hts (jgoodV m_1109 m_1110 m_1111 m_873 m_1112) rfl rfl rfl (by decide +kernel) ⟨(Nat.le_of_ble_eq_true rfl), (Nat.le_of_ble_eq_true rfl)⟩) ⟨xP_blind, xrecv hK hP q0 rfl rfl, fun U hU hW => ⟨rfl, xP_of hU hW hP hK hD hX hS (fun _ h => h) hA⟩⟩ rfl rfl hl.1 rfl (lv_room (Nat.le_of_ble_eq_true rfl)) dX12_thief_47 ⟨(Nat.le_of_ble_eq_true rfl), (Nat.le_of_ble_eq_true rfl)⟩) hP hS hA (fun r_37 H locs w_38 hP hS => ?_)
              obtain ⟨z_39, rfl, h_40⟩ := w_38
              refine jt_q (rv z_39) rfl ?_
              refine xq_astore (i := 5) (lv' := [(5, rv z_39), (4, .int (iI a4_31)), (3, rv z_3), (0, .ref p0.toNat), (1, .int (iI p1)), (2, .int (iI p2))]) hx hb dX12_thief_50 hl (by decide) rfl (fun ls hl => ?_)
              refine xq_aload hx hb dX12_thief_52 (lv_at hl 0 rfl) ?_
              have J107 : ∀ (vc107 : Int → Int → Int) (H : Heap) (locs : List Loc) (ls : Array Slot), fr K [(62, (-1))] vc107 vc31 → xI L K N vc107 → va_P (dC, dI) vwCl (xG L cid K N vc107) H → va_D A (xG L cid K N vc107) → va_S A s.heap H locs → lv_has ls 6 [(5, rv z_39), (4, .int (iI a4_31)), (3, rv z_3), (0, .ref p0.toNat), (1, .int (iI p1)), (2, .int (iI p2))] → W p l e ({ frames := 3, cells := 0, slots := 0, locals := 66 }) s m ([.ref p0.toNat, .int (iI p1), .int (iI p2)] : List Value).toArray below meth c H locs 0 0 Q (F0 m 107 ls []) := by
                intro vc107 H locs ls f_41 I_42 hP hD hS hl
                refine lv_iinc (v := iI (a4_31 + 1)) (lv' := [(4, .int (iI (a4_31 + 1))), (5, rv z_39), (3, rv z_3), (0, .ref p0.toNat), (1, .int (iI p1)), (2, .int (iI p2))]) hx hb dX12_thief_107 hl (k := 1) rfl (iI_add _ _) (by decide) (by simp [rv_cat]) (fun ls hl => ?_)
                refine lv_goto (tgt := 31) hx hb dX12_thief_110 (by decide) ?_
                exact ih31 (a4_31 + 1) vc107 H locs ls (by omega) (by omega) (fr_tr f_41 rfl (fr_tr f_20 rfl fr_rf)) I_42 hP hD hS (lv_sub hl [0, 2, 3, 4, 5] rfl)
              refine xq_ifnull (tgt := 107) hx hb dX12_thief_54 (by decide) (fun h_43 => ?_) (fun h_43 => ?_)
              · exact J107 vc31 H locs ls fr_rf I_21 hP hD hS hl
              · have h_44 : ok L K z_39 4 := h_40.resolve_left (by omega)
                refine xq_aload hx hb dX12_thief_57 (lv_at hl 0 rfl) ?_
                refine jt_q (.ref z_39.toNat) (rv_ref (h_44).1) ?_
                have h_45 : (-2147483648) ≤ v z_39 3 ∧ v z_39 3 ≤ 2147483647 := xf_4_3 hI h_44
                refine gx_RX12_385 (y := v z_39 3) hx hb hj hown hK hP h_44 (((fr_use h_44 f_20 rfl)).trans (fr_use h_44 f_14 rfl)) dX12_thief_59 ?_
                refine lv_iconst (v := iI (-1)) hx hb dX12_thief_62 rfl ?_
                refine xr_icmp_eq (tgt := 107) hx hb dX12_thief_63 (by decide) (by omega) (by omega) (fun h_46 => ?_) (fun h_46 => ?_)
                · exact J107 vc31 H locs ls fr_rf I_21 hP hD hS hl
                · refine lv_aload_n hx hb dX12_thief_66 rfl (lv_at hl 3 rfl) ?_
                  refine gx_RX12_99 (y := v p0 19) hx hb hj hown hK hP q0 ((xf_12_19 I_21 q0).1) (((fr_use q0 f_20 rfl)).trans (fr_use q0 f_14 rfl)) dX12_thief_67 ?_
                  refine xq_aload hx hb dX12_thief_70 (lv_at hl 0 rfl) ?_
                  refine jt_q (.ref z_39.toNat) (rv_ref (h_44).1) ?_
                  have h_47 : (-2147483648) ≤ v z_39 6 ∧ v z_39 6 ≤ 2147483647 := xf_4_6 hI h_44
                  refine gx_RX12_399 (y := v z_39 6) hx hb hj hown hK hP h_44 (((fr_use h_44 f_20 rfl)).trans (fr_use h_44 f_14 rfl)) dX12_thief_72 ?_
                  refine lv_aload_n hx hb dX12_thief_75 rfl (lv_at hl 3 rfl) ?_
                  have h_48 : ok L K (v p0 14) 5 := xf_12_14 hI q0
                  refine gx_RX12_66 (y := v p0 14) hx hb hj hown hK hP q0 ((xf_12_14 I_21 q0).1) (((fr_use q0 f_20 rfl)).trans (fr_use q0 f_14 rfl)) dX12_thief_76 ?_
                  refine xq_aload hx hb dX12_thief_79 (lv_at hl 0 rfl) ?_
                  refine jt_q (.ref z_39.toNat) (rv_ref (h_44).1) ?_
                  refine gx_RX12_385 (y := v z_39 3) hx hb hj hown hK hP h_44 (((fr_use h_44 f_20 rfl)).trans (fr_use h_44 f_14 rfl)) dX12_thief_81 ?_
                  refine lv_aload_n hx hb dX12_thief_84 rfl (lv_at hl 3 rfl) ?_
                  have h_49 : 0 ≤ v p0 0 ∧ v p0 0 ≤ 2000 := xf_12_0 hI q0
                  refine gx_RX12_133 (y := v p0 0) hx hb hj hown hK hP q0 (((fr_use q0 f_20 rfl)).trans (fr_use q0 f_14 rfl)) dX12_thief_85 ?_
                  refine jc_i (va_runV (As := [.int (iI (v z_39 3)), .int (iI (v p0 0))]) (rest := [.int (iI (v z_39 6)), .ref (v p0 19).toNat]) ⟨hx, hb, hml, hown, hts⟩ (sX5_valueOn l dC dI _ L cid K N tW sK sV vc31 (v p0 14) (v z_39 3) (v p0 0) I_21 h_48 (by omega) (by omega)) (cwV 2 hts (jgoodV m_1105 m_1106 m_1107 m_923 m_1108) rfl rfl rfl (by decide +kernel) ⟨(Nat.le_of_ble_eq_true rfl), (Nat.le_of_ble_eq_true rfl)⟩) ⟨xP_blind, xrecv hK hP h_48 rfl rfl, fun U hU hW => ⟨rfl, xP_of hU hW hP hK hD hX hS (fun _ h => h) hA⟩⟩ rfl rfl hl.1 rfl (lv_room (Nat.le_of_ble_eq_true rfl)) dX12_thief_88 ⟨(Nat.le_of_ble_eq_true rfl), (Nat.le_of_ble_eq_true rfl)⟩) hP hS hA (fun r_50 H locs w_51 hP hS => ?_)
                  obtain ⟨z_52, rfl, h_53, h_54⟩ := w_51
                  refine xq_aload hx hb dX12_thief_91 (lv_at hl 0 rfl) ?_
                  refine jt_q (.ref z_39.toNat) (rv_ref (h_44).1) ?_
                  refine gx_RX12_399 (y := v z_39 6) hx hb hj hown hK hP h_44 (((fr_use h_44 f_20 rfl)).trans (fr_use h_44 f_14 rfl)) dX12_thief_93 ?_
                  have J104 : ∀ (s0_104 : Int) (H : Heap) (locs : List Loc) (ls : Array Slot), (0 ≤ s0_104 ∧ s0_104 ≤ 1) → va_P (dC, dI) vwCl (xG L cid K N vc31) H → va_D A (xG L cid K N vc31) → va_S A s.heap H locs → lv_has ls 6 [(5, rv z_39), (4, .int (iI a4_31)), (3, rv z_3), (0, .ref p0.toNat), (1, .int (iI p1)), (2, .int (iI p2))] → W p l e ({ frames := 3, cells := 0, slots := 0, locals := 66 }) s m ([.ref p0.toNat, .int (iI p1), .int (iI p2)] : List Value).toArray below meth c H locs 0 0 Q (F0 m 104 ls [.int (iI s0_104), .int (iI (v z_39 6)), .ref (v p0 19).toNat]) := by
                    intro s0_104 H locs ls h_55 hP hD hS hl
                    refine jcg_v (va_runV (As := [.int (iI (v z_39 6)), .int (iI s0_104)]) (rest := []) ⟨hx, hb, hml, hown, hts⟩ (sX10_meet l dC dI _ L cid K N tW sK sV vc31 (v p0 19) (v z_39 6) s0_104 I_21 h_9 (by omega) (by omega)) (cwV 2 hts (jgoodV m_1275 m_1276 m_1277 m_971 m_1278) rfl rfl rfl (by decide +kernel) ⟨(Nat.le_of_ble_eq_true rfl), (Nat.le_of_ble_eq_true rfl)⟩) ⟨xP_blind, xrecv hK hP h_9 rfl rfl, fun U hU hW => ⟨rfl, xP_of hU hW hP hK hD hX hS (fun _ h => h) hA⟩⟩ rfl rfl hl.1 rfl (lv_room (Nat.le_of_ble_eq_true rfl)) dX12_thief_104 ⟨(Nat.le_of_ble_eq_true rfl), (Nat.le_of_ble_eq_true rfl)⟩) hD hS hA (fun v_59 H locs w_57 hP hK hD hS => ?_)
                    obtain ⟨I_61, f_60⟩ := w_57
                    have hP : va_P (dC, dI) vwCl (xG L cid K N v_59) H := hP
                    have hD : va_D A (xG L cid K N v_59) := hD
                    exact J107 v_59 H locs ls (fr_tr f_60 rfl fr_rf) I_61 hP hD hS hl
                  refine xr_icmp_eq (tgt := 103) hx hb dX12_thief_96 (by decide) (by omega) (by omega) (fun h_62 => ?_) (fun h_62 => ?_)
                  · refine lv_iconst (v := iI 0) hx hb dX12_thief_103 rfl ?_
                    exact J104 0 H locs ls (by omega) hP hD hS hl
                  · refine lv_iconst (v := iI 1) hx hb dX12_thief_99 rfl ?_
                    refine lv_goto (tgt := 104) hx hb dX12_thief_100 (by decide) ?_
                    exact J104 1 H locs ls (by omega) hP hD hS hl
        exact L31 ((((v z_3 4) - 0 : Int)).toNat + 1) 0 v_13 H locs ls (by omega) (by omega) fr_rf I_15 hP hD hS hl
      · refine lv_iconst (v := iI (-1)) hx hb dX12_thief_19 rfl ?_
        rw [← hQ]
        exact W.iret (v := iI (-1)) hx hb hr (fun t ht hW => ⟨⟨iI (-1), v, rfl, ⟨(-1), rfl, hI, fr_rf, by omega⟩, by rw [ht]; exact hP, va_K.moved hW.alike hK, hD⟩, hS.F ht⟩) hS.2.2 dX12_thief_20
