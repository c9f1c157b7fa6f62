set_option maxHeartbeats 2000000 in
set_option maxRecDepth 100000 in
theorem sX12_valueFor (l : Launch) (dC : Nat → ClassId) (dI : Nat → Nat → Nat) (sz : Nat) (L : List Nat) (cid : Nat → ClassId) (K : Int → Nat) (N : Int → Int) (tW : Nat) (sK sV : Nat → Nat) (v : Int → Int → Int) (p0 : Int) (p1 : Int) (p2 : Int) (p3 : Int) (hI : xI L K N v) (q0 : ok L K p0 12) (q1 : rg p1) (q2 : ok L K p2 0) (q3 : rg p3) : Met l yX12_valueFor (jk yX12_valueFor cX12_valueFor 5 (some .int)) ({ frames := 4, cells := 0, slots := 0, locals := 115 }) (va_Pc [.ref p0.toNat, .int (iI p1), .ref p2.toNat, .int (iI p3)] (xP (dC, dI) (xG L cid K N v) (xT cid) tW sK sV sz)) (va_Qi (fun (r : Int32) (u : (Int → Int → Int)) => ∃ z : Int, r = iI z ∧ (xI L K N u) ∧ (fr K [(33, (-1)), (34, (-1))] u v) ∧ (rg z)) (fun u t => va_P (dC, dI) vwCl (xG L cid K N u) t.heap ∧ va_K (dC, dI) vwCl (xT cid) t ∧ va_D (va_A (xG L cid K N v) sz) (xG L cid K N u)) (va_A (xG L cid K N v) sz)) 0 0 (va_A (xG L cid K N v) sz) := by
  refine Met.ofW (cc := cX12_valueFor) (maxL := 5) (ret := (some .int)) (by decide) rfl ?_
  intro p e s m args below meth c s₁ B hml hv
  obtain ⟨rfl, ⟨hsz, hP, hK, hD0⟩, hX⟩ := hv
  have hx := B.exec
  have hb := B.bytes
  have hr := B.returns
  have hts := atoms_spec (ws := (jk yX12_valueFor cX12_valueFor 5 (some .int))) B.pre
  have hj : ∀ w ∈ jw, w.before ([.ref p0.toNat, .int (iI p1), .ref p2.toNat, .int (iI p3)] : List Value).toArray s = true := fun w h => hts w (jm h)
  have hown : s.vm.findClass RX12 = some m.cls := findClass_of_methodNamed B.named
  subst hsz
  have hD := hD0.self (sz := s.heap.size)
  generalize hAe : (va_A (xG L cid K N v) s.heap.size) = A at hD hX ⊢
  have hA : ∀ q : Nat, s.heap.size ≤ q → A q := fun q h => by rw [← hAe]; exact Or.inr h
  have hS : va_S A s.heap s.heap [] := va_S.rf
  have hXa := hX
  have hP : va_P (dC, dI) vwCl (xG L cid K N v) s.heap := hP
  have hl := lv_entry ([.ref p0.toNat, .int (iI p1), .ref p2.toNat, .int (iI p3)]) (n := 5) (Nat.le_of_ble_eq_true rfl)
  rw [lg_entry_eq]
  generalize (lg_sl ([.ref p0.toNat, .int (iI p1), .ref p2.toNat, .int (iI p3)]) ++ List.replicate (5 - (lg_sl ([.ref p0.toNat, .int (iI p1), .ref p2.toNat, .int (iI p3)])).length) Slot.unset).toArray = ls at hl ⊢
  have hl : lv_has ls 5 [(0, .ref p0.toNat), (1, .int (iI p1)), (2, .ref p2.toNat), (3, .int (iI p3))] := hl
  generalize hQ : MQ below (va_Qi (fun (r : Int32) (u : (Int → Int → Int)) => ∃ z : Int, r = iI z ∧ (xI L K N u) ∧ (fr K [(33, (-1)), (34, (-1))] u v) ∧ (rg z)) (fun u t => va_P (dC, dI) vwCl (xG L cid K N u) t.heap ∧ va_K (dC, dI) vwCl (xT cid) t ∧ va_D A (xG L cid K N u)) A) ([.ref p0.toNat, .int (iI p1), .ref p2.toNat, .int (iI p3)] : List Value).toArray s 0 0 A = Q
  suffices ST : ∀ (H : Heap) (locs : List Loc), va_P (dC, dI) vwCl (xG L cid K N v) H → va_S A s.heap H locs → W p l e ({ frames := 4, cells := 0, slots := 0, locals := 115 }) s m ([.ref p0.toNat, .int (iI p1), .ref p2.toNat, .int (iI p3)] : List Value).toArray below meth c H locs 0 0 Q (F0 m 0 ls []) from ST _ _ hP hS
  clear hP hS
  intro H locs hP hS
  refine lv_aload_n hx hb dX12_valueFor_0 rfl (lv_at hl 0 rfl) ?_
  refine lv_aload_n hx hb dX12_valueFor_1 rfl (lv_at hl 2 rfl) ?_
  refine jc_i (va_runV (As := [.ref p2.toNat]) (rest := []) ⟨hx, hb, hml, hown, hts⟩ (sX12_standing l dC dI _ L cid K N tW sK sV v p0 p2 hI q0 q2) (cwV 1 hts (jgoodV m_1039 m_1040 m_1041 m_873 m_1042) rfl rfl rfl (by decide +kernel) ⟨(Nat.le_of_ble_eq_true rfl), (Nat.le_of_ble_eq_true rfl)⟩) ⟨xP_blind, xrecv hK hP q0 rfl rfl, fun U hU hW => ⟨rfl, xP_of hU hW hP hK hD hX hS (fun _ h => h) hA⟩⟩ rfl rfl hl.1 rfl (lv_room (Nat.le_of_ble_eq_true rfl)) dX12_valueFor_2 ⟨(Nat.le_of_ble_eq_true rfl), (Nat.le_of_ble_eq_true rfl)⟩) hP hS hA (fun r_1 H locs w_2 hP hS => ?_)
  obtain ⟨z_3, rfl, h_4⟩ := w_2
  refine lv_istore (i := 4) (lv' := [(4, .int (iI z_3)), (0, .ref p0.toNat), (1, .int (iI p1)), (2, .ref p2.toNat), (3, .int (iI p3))]) hx hb dX12_valueFor_5 hl (by decide) rfl (fun ls hl => ?_)
  refine lv_aload_n hx hb dX12_valueFor_7 rfl (lv_at hl 1 rfl) ?_
  refine lv_aload_n hx hb dX12_valueFor_8 rfl (lv_at hl 3 rfl) ?_
  refine lv_iload hx hb dX12_valueFor_9 (lv_at hl 0 rfl) ?_
  refine lv_iload_n hx hb dX12_valueFor_11 rfl (lv_at hl 4 rfl) ?_
  refine jcg_v (va_runV (As := [.ref p2.toNat, .int (iI z_3), .int (iI p3)]) (rest := []) ⟨hx, hb, hml, hown, hts⟩ (sX12_ask l dC dI _ L cid K N tW sK sV v p0 p2 z_3 p3 hI q0 q2 (by omega) (by omega)) (cwV 3 hts (jgoodV m_1084 m_1085 m_1086 m_873 m_1087) rfl rfl rfl (by decide +kernel) ⟨(Nat.le_of_ble_eq_true rfl), (Nat.le_of_ble_eq_true rfl)⟩) ⟨xP_blind, xrecv hK hP q0 rfl rfl, fun U hU hW => ⟨rfl, xP_of hU hW hP hK hD hX hS (fun _ h => h) hA⟩⟩ rfl rfl hl.1 rfl (lv_room (Nat.le_of_ble_eq_true rfl)) dX12_valueFor_12 ⟨(Nat.le_of_ble_eq_true rfl), (Nat.le_of_ble_eq_true rfl)⟩) hD hS hA (fun v_8 H locs w_6 hP hK hD hS => ?_)
  obtain ⟨I_10, f_9⟩ := w_6
  have hP : va_P (dC, dI) vwCl (xG L cid K N v_8) H := hP
  have hD : va_D A (xG L cid K N v_8) := hD
  refine lv_aload_n hx hb dX12_valueFor_15 rfl (lv_at hl 1 rfl) ?_
  have h_11 : ok L K (v p0 3) 8 := xf_12_3 hI q0
  refine gx_RX12_19 (y := v p0 3) hx hb hj hown hK hP q0 ((xf_12_3 I_10 q0).1) (fr_use q0 f_9 rfl) dX12_valueFor_16 ?_
  refine lv_iload_n hx hb dX12_valueFor_19 rfl (lv_at hl 2 rfl) ?_
  refine lv_iload hx hb dX12_valueFor_20 (lv_at hl 0 rfl) ?_
  refine lv_bipush (v := iI 6) hx hb dX12_valueFor_22 rfl ?_
  have J33 : ∀ (s0_33 : Int) (H : Heap) (locs : List Loc) (ls : Array Slot), ((-2147483648) ≤ s0_33 ∧ s0_33 ≤ 2147483647) → va_P (dC, dI) vwCl (xG L cid K N v_8) H → va_D A (xG L cid K N v_8) → va_S A s.heap H locs → lv_has ls 5 [(4, .int (iI z_3)), (0, .ref p0.toNat), (1, .int (iI p1)), (2, .ref p2.toNat), (3, .int (iI p3))] → W p l e ({ frames := 4, cells := 0, slots := 0, locals := 115 }) s m ([.ref p0.toNat, .int (iI p1), .ref p2.toNat, .int (iI p3)] : List Value).toArray below meth c H locs 0 0 Q (F0 m 33 ls [.int (iI s0_33), .int (iI p1), .ref (v p0 3).toNat]) := by
    intro s0_33 H locs ls h_12 hP hD hS hl
    refine lv_aload_n hx hb dX12_valueFor_33 rfl (lv_at hl 1 rfl) ?_
    have h_13 : 0 ≤ v p0 0 ∧ v p0 0 ≤ 2000 := xf_12_0 hI q0
    refine gx_RX12_133 (y := v p0 0) hx hb hj hown hK hP q0 (fr_use q0 f_9 rfl) dX12_valueFor_34 ?_
    refine jcg_i (va_runV (As := [.int (iI p1), .int (iI s0_33), .int (iI (v p0 0))]) (rest := []) ⟨hx, hb, hml, hown, hts⟩ (sX8_valueOf l dC dI _ L cid K N tW sK sV v_8 (v p0 3) p1 s0_33 (v p0 0) I_10 h_11 (by omega) (by omega) (by omega)) (cwV 3 hts (jgoodV m_1088 m_956 m_957 m_928 m_958) rfl rfl rfl (by decide +kernel) ⟨(Nat.le_of_ble_eq_true rfl), (Nat.le_of_ble_eq_true rfl)⟩) ⟨xP_blind, xrecv hK hP h_11 rfl rfl, fun U hU hW => ⟨rfl, xP_of hU hW hP hK hD hX hS (fun _ h => h) hA⟩⟩ rfl rfl hl.1 rfl (lv_room (Nat.le_of_ble_eq_true rfl)) dX12_valueFor_37 ⟨(Nat.le_of_ble_eq_true rfl), (Nat.le_of_ble_eq_true rfl)⟩) hD hS hA (fun r_14 v_18 H locs w_15 hP hK hD hS => ?_)
    obtain ⟨z_16, rfl, I_20, f_19, h_17⟩ := w_15
    have hP : va_P (dC, dI) vwCl (xG L cid K N v_18) H := hP
    have hD : va_D A (xG L cid K N v_18) := hD
    rw [← hQ]
    exact W.iret (v := iI z_16) hx hb hr (fun t ht hW => ⟨⟨iI z_16, v_18, rfl, ⟨z_16, rfl, I_20, (fr_tr f_19 rfl (fr_tr f_9 rfl fr_rf)), by omega⟩, by rw [ht]; exact hP, va_K.moved hW.alike hK, hD⟩, hS.F ht⟩) hS.2.2 dX12_valueFor_40
  refine xr_icmp_ne (tgt := 31) hx hb dX12_valueFor_24 (by decide) (by omega) (by omega) (fun h_21 => ?_) (fun h_21 => ?_)
  · refine lv_iload hx hb dX12_valueFor_31 (lv_at hl 0 rfl) ?_
    exact J33 z_3 H locs ls (by omega) hP hD hS hl
  · refine lv_iconst (v := iI (-1)) hx hb dX12_valueFor_27 rfl ?_
    refine lv_goto (tgt := 33) hx hb dX12_valueFor_28 (by decide) ?_
    exact J33 (-1) H locs ls (by omega) hP hD hS hl
set_option maxHeartbeats 2000000 in
set_option maxRecDepth 100000 in
theorem sX12_mayTake (l : Launch) (dC : Nat → ClassId) (dI : Nat → Nat → Nat) (sz : Nat) (L : List Nat) (cid : Nat → ClassId) (K : Int → Nat) (N : Int → Int) (tW : Nat) (sK sV : Nat → Nat) (v : Int → Int → Int) (p0 : Int) (p1 : Int) (p2 : Int) (hI : xI L K N v) (q0 : ok L K p0 12) (q1 : ok L K p1 0) (q2 : rg p2) : Met l yX12_mayTake (jk yX12_mayTake cX12_mayTake 4 (some .boolean)) ({ frames := 5, cells := 0, slots := 0, locals := 139 }) (va_Pc [.ref p0.toNat, .ref p1.toNat, .int (iI p2)] (xP (dC, dI) (xG L cid K N v) (xT cid) tW sK sV sz)) (va_Qi (fun (r : Int32) (u : (Int → Int → Int)) => ∃ z : Int, r = iI z ∧ (xI L K N u) ∧ (fr K [(33, (-1)), (34, (-1))] u v) ∧ (0 ≤ z ∧ z ≤ 1)) (fun u t => va_P (dC, dI) vwCl (xG L cid K N u) t.heap ∧ va_K (dC, dI) vwCl (xT cid) t ∧ va_D (va_A (xG L cid K N v) sz) (xG L cid K N u)) (va_A (xG L cid K N v) sz)) 0 0 (va_A (xG L cid K N v) sz) := by
  refine Met.ofW (cc := cX12_mayTake) (maxL := 4) (ret := (some .boolean)) (by decide) rfl ?_
  intro p e s m args below meth c s₁ B hml hv
  obtain ⟨rfl, ⟨hsz, hP, hK, hD0⟩, hX⟩ := hv
  have hx := B.exec
  have hb := B.bytes
  have hr := B.returns
  have hts := atoms_spec (ws := (jk yX12_mayTake cX12_mayTake 4 (some .boolean))) B.pre
  have hj : ∀ w ∈ jw, w.before ([.ref p0.toNat, .ref p1.toNat, .int (iI p2)] : List Value).toArray s = true := fun w h => hts w (jm h)
  have hown : s.vm.findClass RX12 = some m.cls := findClass_of_methodNamed B.named
  subst hsz
  have hD := hD0.self (sz := s.heap.size)
  generalize hAe : (va_A (xG L cid K N v) s.heap.size) = A at hD hX ⊢
  have hA : ∀ q : Nat, s.heap.size ≤ q → A q := fun q h => by rw [← hAe]; exact Or.inr h
  have hS : va_S A s.heap s.heap [] := va_S.rf
  have hXa := hX
  have hP : va_P (dC, dI) vwCl (xG L cid K N v) s.heap := hP
  have hl := lv_entry ([.ref p0.toNat, .ref p1.toNat, .int (iI p2)]) (n := 4) (Nat.le_of_ble_eq_true rfl)
  rw [lg_entry_eq]
  generalize (lg_sl ([.ref p0.toNat, .ref p1.toNat, .int (iI p2)]) ++ List.replicate (4 - (lg_sl ([.ref p0.toNat, .ref p1.toNat, .int (iI p2)])).length) Slot.unset).toArray = ls at hl ⊢
  have hl : lv_has ls 4 [(0, .ref p0.toNat), (1, .ref p1.toNat), (2, .int (iI p2))] := hl
  generalize hQ : MQ below (va_Qi (fun (r : Int32) (u : (Int → Int → Int)) => ∃ z : Int, r = iI z ∧ (xI L K N u) ∧ (fr K [(33, (-1)), (34, (-1))] u v) ∧ (0 ≤ z ∧ z ≤ 1)) (fun u t => va_P (dC, dI) vwCl (xG L cid K N u) t.heap ∧ va_K (dC, dI) vwCl (xT cid) t ∧ va_D A (xG L cid K N u)) A) ([.ref p0.toNat, .ref p1.toNat, .int (iI p2)] : List Value).toArray s 0 0 A = Q
  suffices ST : ∀ (H : Heap) (locs : List Loc), va_P (dC, dI) vwCl (xG L cid K N v) H → va_S A s.heap H locs → W p l e ({ frames := 5, cells := 0, slots := 0, locals := 139 }) s m ([.ref p0.toNat, .ref p1.toNat, .int (iI p2)] : List Value).toArray below meth c H locs 0 0 Q (F0 m 0 ls []) from ST _ _ hP hS
  clear hP hS
  intro H locs hP hS
  refine lv_aload_n hx hb dX12_mayTake_0 rfl (lv_at hl 0 rfl) ?_
  refine lv_iload_n hx hb dX12_mayTake_1 rfl (lv_at hl 2 rfl) ?_
  refine jc_q (va_runV (As := [.int (iI p2)]) (rest := []) ⟨hx, hb, hml, hown, hts⟩ (sX12_livingHandAt l dC dI _ L cid K N tW sK sV v p0 p2 hI q0 (by omega)) (cwV 1 hts (jgoodV m_1089 m_1090 m_1091 m_873 m_1092) rfl rfl rfl (by decide +kernel) ⟨(Nat.le_of_ble_eq_true rfl), (Nat.le_of_ble_eq_true rfl)⟩) ⟨xP_blind, xrecv hK hP q0 rfl rfl, fun U hU hW => ⟨rfl, xP_of hU hW hP hK hD hX hS (fun _ h => h) hA⟩⟩ rfl rfl hl.1 rfl (lv_room (Nat.le_of_ble_eq_true rfl)) dX12_mayTake_2 ⟨(Nat.le_of_ble_eq_true rfl), (Nat.le_of_ble_eq_true rfl)⟩) hP hS hA (fun r_1 H locs w_2 hP hS => ?_)
  obtain ⟨z_3, rfl, h_4⟩ := w_2
  refine jt_q (rv z_3) rfl ?_
  refine xq_astore_n (i := 3) (lv' := [(3, rv z_3), (0, .ref p0.toNat), (1, .ref p1.toNat), (2, .int (iI p2))]) hx hb dX12_mayTake_5 rfl hl (by decide) rfl (fun ls hl => ?_)
  refine xq_aload_n hx hb dX12_mayTake_6 rfl (lv_at hl 0 rfl) ?_
  refine xq_ifnull (tgt := 26) hx hb dX12_mayTake_7 (by decide) (fun h_5 => ?_) (fun h_5 => ?_)
  · refine lv_iconst (v := iI 0) hx hb dX12_mayTake_26 rfl ?_
    rw [← hQ]
    exact W.zret (v := iI 0) (ty := .boolean) hx hb hr (nb_bool (by omega) (by omega)) (fun t ht hW => ⟨⟨iI 0, v, rfl, ⟨0, rfl, hI, fr_rf, by omega⟩, by rw [ht]; exact hP, va_K.moved hW.alike hK, hD⟩, hS.F ht⟩) hS.2.2 dX12_mayTake_27
  · have h_6 : ok L K z_3 2 := h_4.resolve_left (by omega)
    refine lv_aload_n hx hb dX12_mayTake_10 rfl (lv_at hl 1 rfl) ?_
    refine lv_aload_n hx hb dX12_mayTake_11 rfl (lv_at hl 2 rfl) ?_
    refine jc_i (va_runV (As := [.ref p1.toNat]) (rest := []) ⟨hx, hb, hml, hown, hts⟩ (sX12_isStruck l dC dI _ L cid K N tW sK sV v p0 p1 hI q0 q1) (cwV 1 hts (jgoodV m_1060 m_1061 m_1062 m_873 m_1063) rfl rfl rfl (by decide +kernel) ⟨(Nat.le_of_ble_eq_true rfl), (Nat.le_of_ble_eq_true rfl)⟩) ⟨xP_blind, xrecv hK hP q0 rfl rfl, fun U hU hW => ⟨rfl, xP_of hU hW hP hK hD hX hS (fun _ h => h) hA⟩⟩ rfl rfl hl.1 rfl (lv_room (Nat.le_of_ble_eq_true rfl)) dX12_mayTake_12 ⟨(Nat.le_of_ble_eq_true rfl), (Nat.le_of_ble_eq_true rfl)⟩) hP hS hA (fun r_7 H locs w_8 hP hS => ?_)
    obtain ⟨z_9, rfl, h_10⟩ := w_8
    refine xr_if_ne (tgt := 26) hx hb dX12_mayTake_15 (by decide) (by omega) (fun h_11 => ?_) (fun h_11 => ?_)
    · refine lv_iconst (v := iI 0) hx hb dX12_mayTake_26 rfl ?_
      rw [← hQ]
      exact W.zret (v := iI 0) (ty := .boolean) hx hb hr (nb_bool (by omega) (by omega)) (fun t ht hW => ⟨⟨iI 0, v, rfl, ⟨0, rfl, hI, fr_rf, by omega⟩, by rw [ht]; exact hP, va_K.moved hW.alike hK, hD⟩, hS.F ht⟩) hS.2.2 dX12_mayTake_27
    · refine lv_aload_n hx hb dX12_mayTake_18 rfl (lv_at hl 2 rfl) ?_
      have h_12 : (-2147483648) ≤ v p1 12 ∧ v p1 12 ≤ 2147483647 := xf_0_12 hI q1
      refine gx_RX12_247 (y := v p1 12) hx hb hj hown hK hP q1 rfl dX12_mayTake_19 ?_
      refine lv_iconst (v := iI (-1)) hx hb dX12_mayTake_22 rfl ?_
      refine xr_icmp_eq (tgt := 28) hx hb dX12_mayTake_23 (by decide) (by omega) (by omega) (fun h_13 => ?_) (fun h_13 => ?_)
      · refine xq_aload_n hx hb dX12_mayTake_28 rfl (lv_at hl 0 rfl) ?_
        refine jt_q (.ref z_3.toNat) (rv_ref (h_6).1) ?_
        have h_14 : (-2147483648) ≤ v z_3 0 ∧ v z_3 0 ≤ 2147483647 := xf_2_0 hI h_6
        refine gx_RX12_322 (y := v z_3 0) hx hb hj hown hK hP h_6 rfl dX12_mayTake_29 ?_
        refine lv_aload_n hx hb dX12_mayTake_32 rfl (lv_at hl 2 rfl) ?_
        have h_15 : (-2147483648) ≤ v p1 8 ∧ v p1 8 ≤ 2147483647 := xf_0_8 hI q1
        refine gx_RX12_180 (y := v p1 8) hx hb hj hown hK hP q1 rfl dX12_mayTake_33 ?_
        refine lv_ishr hx hb dX12_mayTake_36 ?_
        refine xr_any (fun z_16 h_17 => ?_)
        refine lv_iconst (v := iI 1) hx hb dX12_mayTake_37 rfl ?_
        refine xr_andR hx hb (by omega) (by omega) dX12_mayTake_38 (fun z_18 h_19 => ?_)
        refine xr_if_eq (tgt := 54) hx hb dX12_mayTake_39 (by decide) (by omega) (fun h_20 => ?_) (fun h_20 => ?_)
        · refine lv_iconst (v := iI 0) hx hb dX12_mayTake_54 rfl ?_
          rw [← hQ]
          exact W.zret (v := iI 0) (ty := .boolean) hx hb hr (nb_bool (by omega) (by omega)) (fun t ht hW => ⟨⟨iI 0, v, rfl, ⟨0, rfl, hI, fr_rf, by omega⟩, by rw [ht]; exact hP, va_K.moved hW.alike hK, hD⟩, hS.F ht⟩) hS.2.2 dX12_mayTake_55
        · refine xq_aload_n hx hb dX12_mayTake_42 rfl (lv_at hl 0 rfl) ?_
          refine jt_q (.ref z_3.toNat) (rv_ref (h_6).1) ?_
          have h_21 : (-2147483648) ≤ v z_3 4 ∧ v z_3 4 ≤ 2147483647 := xf_2_4 hI h_6
          refine gx_RX12_303 (y := v z_3 4) hx hb hj hown hK hP h_6 rfl dX12_mayTake_43 ?_
          refine lv_aload_n hx hb dX12_mayTake_46 rfl (lv_at hl 2 rfl) ?_
          have h_22 : (-2147483648) ≤ v p1 17 ∧ v p1 17 ≤ 2147483647 := xf_0_17 hI q1
          refine gx_RX12_325 (y := v p1 17) hx hb hj hown hK hP q1 rfl dX12_mayTake_47 ?_
          refine lv_iand hx hb dX12_mayTake_50 ?_
          refine xr_any (fun z_23 h_24 => ?_)
          refine xr_if_eq (tgt := 56) hx hb dX12_mayTake_51 (by decide) (by omega) (fun h_25 => ?_) (fun h_25 => ?_)
          · refine lv_aload_n hx hb dX12_mayTake_56 rfl (lv_at hl 1 rfl) ?_
            refine lv_iconst (v := iI 2) hx hb dX12_mayTake_57 rfl ?_
            refine lv_aload_n hx hb dX12_mayTake_58 rfl (lv_at hl 2 rfl) ?_
            refine lv_iload_n hx hb dX12_mayTake_59 rfl (lv_at hl 3 rfl) ?_
            refine jcg_i (va_runV (As := [.int (iI 2), .ref p1.toNat, .int (iI p2)]) (rest := []) ⟨hx, hb, hml, hown, hts⟩ (sX12_valueFor l dC dI _ L cid K N tW sK sV v p0 2 p1 p2 hI q0 (by omega) q1 (by omega)) (cwV 3 hts (jgoodV m_1093 m_1094 m_1095 m_873 m_1096) rfl rfl rfl (by decide +kernel) ⟨(Nat.le_of_ble_eq_true rfl), (Nat.le_of_ble_eq_true rfl)⟩) ⟨xP_blind, xrecv hK hP q0 rfl rfl, fun U hU hW => ⟨rfl, xP_of hU hW hP hK hD hX hS (fun _ h => h) hA⟩⟩ rfl rfl hl.1 rfl (lv_room (Nat.le_of_ble_eq_true rfl)) dX12_mayTake_60 ⟨(Nat.le_of_ble_eq_true rfl), (Nat.le_of_ble_eq_true rfl)⟩) hD hS hA (fun r_26 v_30 H locs w_27 hP hK hD hS => ?_)
            obtain ⟨z_28, rfl, I_32, f_31, h_29⟩ := w_27
            have hP : va_P (dC, dI) vwCl (xG L cid K N v_30) H := hP
            have hD : va_D A (xG L cid K N v_30) := hD
            refine xr_if_eq (tgt := 70) hx hb dX12_mayTake_63 (by decide) (by omega) (fun h_33 => ?_) (fun h_33 => ?_)
            · refine lv_iconst (v := iI 0) hx hb dX12_mayTake_70 rfl ?_
              rw [← hQ]
              exact W.zret (v := iI 0) (ty := .boolean) hx hb hr (nb_bool (by omega) (by omega)) (fun t ht hW => ⟨⟨iI 0, v_30, rfl, ⟨0, rfl, I_32, (fr_tr f_31 rfl fr_rf), by omega⟩, by rw [ht]; exact hP, va_K.moved hW.alike hK, hD⟩, hS.F ht⟩) hS.2.2 dX12_mayTake_71
            · refine lv_iconst (v := iI 1) hx hb dX12_mayTake_66 rfl ?_
              refine lv_goto (tgt := 71) hx hb dX12_mayTake_67 (by decide) ?_
              rw [← hQ]
              exact W.zret (v := iI 1) (ty := .boolean) hx hb hr (nb_bool (by omega) (by omega)) (fun t ht hW => ⟨⟨iI 1, v_30, rfl, ⟨1, rfl, I_32, (fr_tr f_31 rfl fr_rf), by omega⟩, by rw [ht]; exact hP, va_K.moved hW.alike hK, hD⟩, hS.F ht⟩) hS.2.2 dX12_mayTake_71
          · refine lv_iconst (v := iI 0) hx hb dX12_mayTake_54 rfl ?_
            rw [← hQ]
            exact W.zret (v := iI 0) (ty := .boolean) hx hb hr (nb_bool (by omega) (by omega)) (fun t ht hW => ⟨⟨iI 0, v, rfl, ⟨0, rfl, hI, fr_rf, by omega⟩, by rw [ht]; exact hP, va_K.moved hW.alike hK, hD⟩, hS.F ht⟩) hS.2.2 dX12_mayTake_55
      · refine lv_iconst (v := iI 0) hx hb dX12_mayTake_26 rfl ?_
        rw [← hQ]
        exact W.zret (v := iI 0) (ty := .boolean) hx hb hr (nb_bool (by omega) (by omega)) (fun t ht hW => ⟨⟨iI 0, v, rfl, ⟨0, rfl, hI, fr_rf, by omega⟩, by rw [ht]; exact hP, va_K.moved hW.alike hK, hD⟩, hS.F ht⟩) hS.2.2 dX12_mayTake_27
set_option maxHeartbeats 2000000 in
set_option maxRecDepth 100000 in
theorem sX12_give (l : Launch) (dC : Nat → ClassId) (dI : Nat → Nat → Nat) (sz : Nat) (L : List Nat) (cid : Nat → ClassId) (K : Int → Nat) (N : Int → Int) (tW : Nat) (sK sV : Nat → Nat) (v : Int → Int → Int) (p0 : Int) (p1 : Int) (p2 : Int) (hI : xI L K N v) (q0 : ok L K p0 12) (q1 : rg p1) (q2 : rg p2) : Met l yX12_give (jk yX12_give cX12_give 4 (some .boolean)) ({ frames := 6, cells := 0, slots := 0, locals := 162 }) (va_Pc [.ref p0.toNat, .int (iI p1), .int (iI p2)] (xP (dC, dI) (xG L cid K N v) (xT cid) tW sK sV sz)) (va_Qi (fun (r : Int32) (u : (Int → Int → Int)) => ∃ z : Int, r = iI z ∧ (xI L K N u) ∧ (fr K [(0, 14), (33, (-1)), (34, (-1))] u v) ∧ (0 ≤ z ∧ z ≤ 1)) (fun u t => va_P (dC, dI) vwCl (xG L cid K N u) t.heap ∧ va_K (dC, dI) vwCl (xT cid) t ∧ va_D (va_A (xG L cid K N v) sz) (xG L cid K N u)) (va_A (xG L cid K N v) sz)) 0 0 (va_A (xG L cid K N v) sz) := by
  refine Met.ofW (cc := cX12_give) (maxL := 4) (ret := (some .boolean)) (by decide) rfl ?_
  intro p e s m args below meth c s₁ B hml hv
  obtain ⟨rfl, ⟨hsz, hP, hK, hD0⟩, hX⟩ := hv
  have hx := B.exec
  have hb := B.bytes
  have hr := B.returns
  have hts := atoms_spec (ws := (jk yX12_give cX12_give 4 (some .boolean))) B.pre
  have hj : ∀ w ∈ jw, w.before ([.ref p0.toNat, .int (iI p1), .int (iI p2)] : List Value).toArray s = true := fun w h => hts w (jm h)
  have hown : s.vm.findClass RX12 = some m.cls := findClass_of_methodNamed B.named
  subst hsz
  have hD := hD0.self (sz := s.heap.size)
  generalize hAe : (va_A (xG L cid K N v) s.heap.size) = A at hD hX ⊢
  have hA : ∀ q : Nat, s.heap.size ≤ q → A q := fun q h => by rw [← hAe]; exact Or.inr h
  have hS : va_S A s.heap s.heap [] := va_S.rf
  have hXa := hX
  have hP : va_P (dC, dI) vwCl (xG L cid K N v) s.heap := hP
  have hl := lv_entry ([.ref p0.toNat, .int (iI p1), .int (iI p2)]) (n := 4) (Nat.le_of_ble_eq_true rfl)
  rw [lg_entry_eq]
  generalize (lg_sl ([.ref p0.toNat, .int (iI p1), .int (iI p2)]) ++ List.replicate (4 - (lg_sl ([.ref p0.toNat, .int (iI p1), .int (iI p2)])).length) Slot.unset).toArray = ls at hl ⊢
  have hl : lv_has ls 4 [(0, .ref p0.toNat), (1, .int (iI p1)), (2, .int (iI p2))] := hl
  generalize hQ : MQ below (va_Qi (fun (r : Int32) (u : (Int → Int → Int)) => ∃ z : Int, r = iI z ∧ (xI L K N u) ∧ (fr K [(0, 14), (33, (-1)), (34, (-1))] u v) ∧ (0 ≤ z ∧ z ≤ 1)) (fun u t => va_P (dC, dI) vwCl (xG L cid K N u) t.heap ∧ va_K (dC, dI) vwCl (xT cid) t ∧ va_D A (xG L cid K N u)) A) ([.ref p0.toNat, .int (iI p1), .int (iI p2)] : List Value).toArray s 0 0 A = Q
  suffices ST : ∀ (H : Heap) (locs : List Loc), va_P (dC, dI) vwCl (xG L cid K N v) H → va_S A s.heap H locs → W p l e ({ frames := 6, cells := 0, slots := 0, locals := 162 }) s m ([.ref p0.toNat, .int (iI p1), .int (iI p2)] : List Value).toArray below meth c H locs 0 0 Q (F0 m 0 ls []) from ST _ _ hP hS
  clear hP hS
  intro H locs hP hS
  refine lv_aload_n hx hb dX12_give_0 rfl (lv_at hl 0 rfl) ?_
  refine lv_iload_n hx hb dX12_give_1 rfl (lv_at hl 1 rfl) ?_
  refine lv_iconst (v := iI 0) hx hb dX12_give_2 rfl ?_
  refine jc_q (va_runV (As := [.int (iI p1), .int (iI 0)]) (rest := []) ⟨hx, hb, hml, hown, hts⟩ (sX12_entryOfKind l dC dI _ L cid K N tW sK sV v p0 p1 0 hI q0 (by omega) (by omega)) (cwV 2 hts (jgoodV m_1027 m_1028 m_1029 m_873 m_1030) rfl rfl rfl (by decide +kernel) ⟨(Nat.le_of_ble_eq_true rfl), (Nat.le_of_ble_eq_true rfl)⟩) ⟨xP_blind, xrecv hK hP q0 rfl rfl, fun U hU hW => ⟨rfl, xP_of hU hW hP hK hD hX hS (fun _ h => h) hA⟩⟩ rfl rfl hl.1 rfl (lv_room (Nat.le_of_ble_eq_true rfl)) dX12_give_3 ⟨(Nat.le_of_ble_eq_true rfl), (Nat.le_of_ble_eq_true rfl)⟩) hP hS hA (fun r_1 H locs w_2 hP hS => ?_)
  obtain ⟨z_3, rfl, h_4⟩ := w_2
  refine jt_q (rv z_3) rfl ?_
  refine xq_astore_n (i := 3) (lv' := [(3, rv z_3), (0, .ref p0.toNat), (1, .int (iI p1)), (2, .int (iI p2))]) hx hb dX12_give_6 rfl hl (by decide) rfl (fun ls hl => ?_)
  refine xq_aload_n hx hb dX12_give_7 rfl (lv_at hl 0 rfl) ?_
  refine xq_ifnull (tgt := 27) hx hb dX12_give_8 (by decide) (fun h_5 => ?_) (fun h_5 => ?_)
  · refine lv_iconst (v := iI 0) hx hb dX12_give_27 rfl ?_
    rw [← hQ]
    exact W.zret (v := iI 0) (ty := .boolean) hx hb hr (nb_bool (by omega) (by omega)) (fun t ht hW => ⟨⟨iI 0, v, rfl, ⟨0, rfl, hI, fr_rf, by omega⟩, by rw [ht]; exact hP, va_K.moved hW.alike hK, hD⟩, hS.F ht⟩) hS.2.2 dX12_give_28
  · have h_6 : ok L K z_3 0 := h_4.resolve_left (by omega)
    refine xq_aload_n hx hb dX12_give_11 rfl (lv_at hl 0 rfl) ?_
    refine jt_q (.ref z_3.toNat) (rv_ref (h_6).1) ?_
    refine jc_i (va_runV (As := []) (rest := []) ⟨hx, hb, hml, hown, hts⟩ (sX0_isDone l dC dI _ L cid K N tW sK sV v z_3 hI h_6) (cwV 0 hts (jgoodV m_1097 m_1098 m_1099 m_666 m_1100) rfl rfl rfl (by decide +kernel) ⟨(Nat.le_of_ble_eq_true rfl), (Nat.le_of_ble_eq_true rfl)⟩) ⟨xP_blind, xrecv hK hP h_6 rfl rfl, fun U hU hW => ⟨rfl, xP_of hU hW hP hK hD hX hS (fun _ h => h) hA⟩⟩ rfl rfl hl.1 rfl (lv_room (Nat.le_of_ble_eq_true rfl)) dX12_give_12 ⟨(Nat.le_of_ble_eq_true rfl), (Nat.le_of_ble_eq_true rfl)⟩) hP hS hA (fun r_7 H locs w_8 hP hS => ?_)
    obtain ⟨z_9, rfl, h_10, h_11⟩ := w_8
    have h_12 : 0 ≤ v z_3 15 ∧ v z_3 15 ≤ 200 := xf_0_15 hI h_6
    have h_13 : 0 ≤ v z_3 9 ∧ v z_3 9 ≤ 200 := xf_0_9 hI h_6
    refine xr_if_ne (tgt := 27) hx hb dX12_give_15 (by decide) (by omega) (fun h_14 => ?_) (fun h_14 => ?_)
    · refine lv_iconst (v := iI 0) hx hb dX12_give_27 rfl ?_
      rw [← hQ]
      exact W.zret (v := iI 0) (ty := .boolean) hx hb hr (nb_bool (by omega) (by omega)) (fun t ht hW => ⟨⟨iI 0, v, rfl, ⟨0, rfl, hI, fr_rf, by omega⟩, by rw [ht]; exact hP, va_K.moved hW.alike hK, hD⟩, hS.F ht⟩) hS.2.2 dX12_give_28
    · refine lv_aload_n hx hb dX12_give_18 rfl (lv_at hl 1 rfl) ?_
      refine xq_aload_n hx hb dX12_give_19 rfl (lv_at hl 0 rfl) ?_
      refine jt_q (.ref z_3.toNat) (rv_ref (h_6).1) ?_
      refine lv_iload_n hx hb dX12_give_20 rfl (lv_at hl 3 rfl) ?_
      refine jcg_i (va_runV (As := [.ref z_3.toNat, .int (iI p2)]) (rest := []) ⟨hx, hb, hml, hown, hts⟩ (sX12_mayTake l dC dI _ L cid K N tW sK sV v p0 z_3 p2 hI q0 h_6 (by omega)) (cwV 2 hts (jgoodV m_1101 m_1102 m_1103 m_873 m_1104) rfl rfl rfl (by decide +kernel) ⟨(Nat.le_of_ble_eq_true rfl), (Nat.le_of_ble_eq_true rfl)⟩) ⟨xP_blind, xrecv hK hP q0 rfl rfl, fun U hU hW => ⟨rfl, xP_of hU hW hP hK hD hX hS (fun _ h => h) hA⟩⟩ rfl rfl hl.1 rfl (lv_room (Nat.le_of_ble_eq_true rfl)) dX12_give_21 ⟨(Nat.le_of_ble_eq_true rfl), (Nat.le_of_ble_eq_true rfl)⟩) hD hS hA (fun r_15 v_19 H locs w_16 hP hK hD hS => ?_)
      obtain ⟨z_17, rfl, I_21, f_20, h_18⟩ := w_16
      have hP : va_P (dC, dI) vwCl (xG L cid K N v_19) H := hP
      have hD : va_D A (xG L cid K N v_19) := hD
      refine xr_if_ne (tgt := 29) hx hb dX12_give_24 (by decide) (by omega) (fun h_22 => ?_) (fun h_22 => ?_)
      · refine xq_aload_n hx hb dX12_give_29 rfl (lv_at hl 0 rfl) ?_
        refine jt_q (.ref z_3.toNat) (rv_ref (h_6).1) ?_
        refine lv_iload_n hx hb dX12_give_30 rfl (lv_at hl 3 rfl) ?_
        refine px_RX12_313 (y := p2) hx hb hj hown hK hP hD hS I_21 h_6 ⟨by omega, by omega⟩ dX12_give_31 (fun v_23 H locs f_24 e_25 o_26 I_27 hP hD hS => ?_)
        refine lv_iconst (v := iI 1) hx hb dX12_give_34 rfl ?_
        rw [← hQ]
        exact W.zret (v := iI 1) (ty := .boolean) hx hb hr (nb_bool (by omega) (by omega)) (fun t ht hW => ⟨⟨iI 1, v_23, rfl, ⟨1, rfl, I_27, (fr_tr f_24 rfl (fr_tr f_20 rfl fr_rf)), by omega⟩, by rw [ht]; exact hP, va_K.moved hW.alike hK, hD⟩, hS.F ht⟩) hS.2.2 dX12_give_35
      · refine lv_iconst (v := iI 0) hx hb dX12_give_27 rfl ?_
        rw [← hQ]
        exact W.zret (v := iI 0) (ty := .boolean) hx hb hr (nb_bool (by omega) (by omega)) (fun t ht hW => ⟨⟨iI 0, v_19, rfl, ⟨0, rfl, I_21, (fr_tr f_20 rfl fr_rf), by omega⟩, by rw [ht]; exact hP, va_K.moved hW.alike hK, hD⟩, hS.F ht⟩) hS.2.2 dX12_give_28
set_option maxHeartbeats 2000000 in
set_option maxRecDepth 100000 in
theorem sX12_lineAt (l : Launch) (dC : Nat → ClassId) (dI : Nat → Nat → Nat) (sz : Nat) (L : List Nat) (cid : Nat → ClassId) (K : Int → Nat) (N : Int → Int) (tW : Nat) (sK sV : Nat → Nat) (v : Int → Int → Int) (p0 : Int) (p1 : Int) (hI : xI L K N v) (q0 : ok L K p0 12) (q1 : rg p1) : Met l yX12_lineAt (jk yX12_lineAt cX12_lineAt 2 (some (.object "BookOfAll$Line"))) ({ frames := 0, cells := 0, slots := 0, locals := 0 }) (va_Pc [.ref p0.toNat, .int (iI p1)] (xP (dC, dI) (xG L cid K N v) (xT cid) tW sK sV sz)) (va_Qq (fun (r : Option Nat) (_ : Unit) => ∃ z : Int, r = opt z ∧ (z < 0 ∨ ok L K z 4)) (fun _ _ => True) (va_A [] sz)) 0 0 (va_A [] sz) := by
  refine Met.ofW (cc := cX12_lineAt) (maxL := 2) (ret := (some (.object "BookOfAll$Line"))) (by decide) rfl ?_
  intro p e s m args below meth c s₁ B hml hv
  obtain ⟨rfl, ⟨hsz, hP, hK, hD0⟩, hX⟩ := hv
  have hx := B.exec
  have hb := B.bytes
  have hr := B.returns
  have hts := atoms_spec (ws := (jk yX12_lineAt cX12_lineAt 2 (some (.object "BookOfAll$Line")))) B.pre
  have hj : ∀ w ∈ jw, w.before ([.ref p0.toNat, .int (iI p1)] : List Value).toArray s = true := fun w h => hts w (jm h)
  have hown : s.vm.findClass RX12 = some m.cls := findClass_of_methodNamed B.named
  subst hsz
  have hDw := hD0.self (sz := s.heap.size)
  have hAA : ∀ q : Nat, s.heap.size ≤ q → va_A (xG L cid K N v) s.heap.size q := fun q h => Or.inr h
  have hAw : ∀ q, va_A [] s.heap.size q → va_A (xG L cid K N v) s.heap.size q := ja_nil va_S.rf hAA
  generalize hAe : (va_A [] s.heap.size) = A at hAw ⊢
  have hA : ∀ q : Nat, s.heap.size ≤ q → A q := fun q h => by rw [← hAe]; exact Or.inr h
  have hS : va_S A s.heap s.heap [] := va_S.rf
  have hXa := hX.nar hAw
  have hP : va_P (dC, dI) vwCl (xG L cid K N v) s.heap := hP
  have hl := lv_entry ([.ref p0.toNat, .int (iI p1)]) (n := 2) (Nat.le_of_ble_eq_true rfl)
  rw [lg_entry_eq]
  generalize (lg_sl ([.ref p0.toNat, .int (iI p1)]) ++ List.replicate (2 - (lg_sl ([.ref p0.toNat, .int (iI p1)])).length) Slot.unset).toArray = ls at hl ⊢
  have hl : lv_has ls 2 [(0, .ref p0.toNat), (1, .int (iI p1))] := hl
  generalize hQ : MQ below (va_Qq (fun (r : Option Nat) (_ : Unit) => ∃ z : Int, r = opt z ∧ (z < 0 ∨ ok L K z 4)) (fun _ _ => True) A) ([.ref p0.toNat, .int (iI p1)] : List Value).toArray s 0 0 A = Q
  suffices ST : ∀ (H : Heap) (locs : List Loc), va_P (dC, dI) vwCl (xG L cid K N v) H → va_S A s.heap H locs → W p l e ({ frames := 0, cells := 0, slots := 0, locals := 0 }) s m ([.ref p0.toNat, .int (iI p1)] : List Value).toArray below meth c H locs 0 0 Q (F0 m 0 ls []) from ST _ _ hP hS
  clear hP hS
  intro H locs hP hS
  refine lv_iload_n hx hb dX12_lineAt_0 rfl (lv_at hl 1 rfl) ?_
  refine xr_if_lt (tgt := 28) hx hb dX12_lineAt_1 (by decide) (by omega) (fun h_1 => ?_) (fun h_1 => ?_)
  · refine lv_null hx hb dX12_lineAt_28 ?_
    refine jt_q (rv (-1)) rv_nul ?_
    rw [← hQ]
    exact W.aret (v := rv (-1)) hx hb hr (Or.inl ⟨_, rfl⟩) (rv_or (-1)) (fun t ht hW => ⟨⟨opt (-1), (), rfl, ⟨-1, rfl, (Or.inl (by decide))⟩, trivial⟩, hS.F ht⟩) hS.2.2 dX12_lineAt_29
  · refine lv_iload_n hx hb dX12_lineAt_4 rfl (lv_at hl 1 rfl) ?_
    refine lv_aload_n hx hb dX12_lineAt_5 rfl (lv_at hl 0 rfl) ?_
    have h_2 : 0 ≤ v p0 13 ∧ v p0 13 ≤ 300 := xf_12_13 hI q0
    refine gx_RX12_370 (y := v p0 13) hx hb hj hown hK hP q0 rfl dX12_lineAt_6 ?_
    refine xr_icmp_ge (tgt := 28) hx hb dX12_lineAt_9 (by decide) (by omega) (by omega) (fun h_3 => ?_) (fun h_3 => ?_)
    · refine lv_null hx hb dX12_lineAt_28 ?_
      refine jt_q (rv (-1)) rv_nul ?_
      rw [← hQ]
      exact W.aret (v := rv (-1)) hx hb hr (Or.inl ⟨_, rfl⟩) (rv_or (-1)) (fun t ht hW => ⟨⟨opt (-1), (), rfl, ⟨-1, rfl, (Or.inl (by decide))⟩, trivial⟩, hS.F ht⟩) hS.2.2 dX12_lineAt_29
    · refine lv_iload_n hx hb dX12_lineAt_12 rfl (lv_at hl 1 rfl) ?_
      refine lv_sipush (v := iI 300) hx hb dX12_lineAt_13 rfl ?_
      refine xr_icmp_ge (tgt := 28) hx hb dX12_lineAt_16 (by decide) (by omega) (by omega) (fun h_4 => ?_) (fun h_4 => ?_)
      · exfalso; omega
      · refine lv_aload_n hx hb dX12_lineAt_19 rfl (lv_at hl 0 rfl) ?_
        have h_5 : ok L K (v p0 12) 39 := xf_12_12 hI q0
        have h_6 : N (v p0 12) = 300 := xn_39 hI h_5
        refine gx_RX12_59 (y := v p0 12) hx hb hj hown hK hP q0 ((xf_12_12 hI q0).1) rfl dX12_lineAt_20 ?_
        refine lv_iload_n hx hb dX12_lineAt_23 rfl (lv_at hl 1 rfl) ?_
        have h_7 : v (v p0 12) p1 < 0 ∨ ok L K (v (v p0 12) p1) 4 := xe_39 hI h_5 (by omega)
        refine ax_39 (y := v (v p0 12) p1) hx hb hK hP h_5 (by omega) (by omega) (by omega) rfl dX12_lineAt_24 ?_
        refine lv_goto (tgt := 29) hx hb dX12_lineAt_25 (by decide) ?_
        rw [← hQ]
        exact W.aret (v := rv (v (v p0 12) p1)) hx hb hr (Or.inl ⟨_, rfl⟩) (rv_or (v (v p0 12) p1)) (fun t ht hW => ⟨⟨opt (v (v p0 12) p1), (), rfl, ⟨v (v p0 12) p1, rfl, h_7⟩, trivial⟩, hS.F ht⟩) hS.2.2 dX12_lineAt_29
set_option maxHeartbeats 2000000 in
set_option maxRecDepth 100000 in
theorem sX12_canLean (l : Launch) (dC : Nat → ClassId) (dI : Nat → Nat → Nat) (sz : Nat) (L : List Nat) (cid : Nat → ClassId) (K : Int → Nat) (N : Int → Int) (tW : Nat) (sK sV : Nat → Nat) (v : Int → Int → Int) (p0 : Int) (p1 : Int) (hI : xI L K N v) (q0 : ok L K p0 12) (q1 : rg p1) : Met l yX12_canLean (jk yX12_canLean cX12_canLean 2 (some .boolean)) ({ frames := 2, cells := 0, slots := 0, locals := 47 }) (va_Pc [.ref p0.toNat, .int (iI p1)] (xP (dC, dI) (xG L cid K N v) (xT cid) tW sK sV sz)) (va_Qi (fun (r : Int32) (_ : Unit) => ∃ z : Int, r = iI z ∧ (0 ≤ z ∧ z ≤ 1)) (fun _ _ => True) (va_A [] sz)) 0 0 (va_A [] sz) := by
  refine Met.ofW (cc := cX12_canLean) (maxL := 2) (ret := (some .boolean)) (by decide) rfl ?_
  intro p e s m args below meth c s₁ B hml hv
  obtain ⟨rfl, ⟨hsz, hP, hK, hD0⟩, hX⟩ := hv
  have hx := B.exec
  have hb := B.bytes
  have hr := B.returns
  have hts := atoms_spec (ws := (jk yX12_canLean cX12_canLean 2 (some .boolean))) B.pre
  have hj : ∀ w ∈ jw, w.before ([.ref p0.toNat, .int (iI p1)] : List Value).toArray s = true := fun w h => hts w (jm h)
  have hown : s.vm.findClass RX12 = some m.cls := findClass_of_methodNamed B.named
  subst hsz
  have hDw := hD0.self (sz := s.heap.size)
  have hAA : ∀ q : Nat, s.heap.size ≤ q → va_A (xG L cid K N v) s.heap.size q := fun q h => Or.inr h
  have hAw : ∀ q, va_A [] s.heap.size q → va_A (xG L cid K N v) s.heap.size q := ja_nil va_S.rf hAA
  generalize hAe : (va_A [] s.heap.size) = A at hAw ⊢
  have hA : ∀ q : Nat, s.heap.size ≤ q → A q := fun q h => by rw [← hAe]; exact Or.inr h
  have hS : va_S A s.heap s.heap [] := va_S.rf
  have hXa := hX.nar hAw
  have hP : va_P (dC, dI) vwCl (xG L cid K N v) s.heap := hP
  have hl := lv_entry ([.ref p0.toNat, .int (iI p1)]) (n := 2) (Nat.le_of_ble_eq_true rfl)
  rw [lg_entry_eq]
  generalize (lg_sl ([.ref p0.toNat, .int (iI p1)]) ++ List.replicate (2 - (lg_sl ([.ref p0.toNat, .int (iI p1)])).length) Slot.unset).toArray = ls at hl ⊢
  have hl : lv_has ls 2 [(0, .ref p0.toNat), (1, .int (iI p1))] := hl
  generalize hQ : MQ below (va_Qi (fun (r : Int32) (_ : Unit) => ∃ z : Int, r = iI z ∧ (0 ≤ z ∧ z ≤ 1)) (fun _ _ => True) A) ([.ref p0.toNat, .int (iI p1)] : List Value).toArray s 0 0 A = Q
  suffices ST : ∀ (H : Heap) (locs : List Loc), va_P (dC, dI) vwCl (xG L cid K N v) H → va_S A s.heap H locs → W p l e ({ frames := 2, cells := 0, slots := 0, locals := 47 }) s m ([.ref p0.toNat, .int (iI p1)] : List Value).toArray below meth c H locs 0 0 Q (F0 m 0 ls []) from ST _ _ hP hS
  clear hP hS
  intro H locs hP hS
  refine lv_iload_n hx hb dX12_canLean_0 rfl (lv_at hl 1 rfl) ?_
  refine lv_iconst (v := iI (-1)) hx hb dX12_canLean_1 rfl ?_
  refine xr_icmp_eq (tgt := 32) hx hb dX12_canLean_2 (by decide) (by omega) (by omega) (fun h_1 => ?_) (fun h_1 => ?_)
  · refine lv_iconst (v := iI 1) hx hb dX12_canLean_32 rfl ?_
    refine lv_goto (tgt := 37) hx hb dX12_canLean_33 (by decide) ?_
    rw [← hQ]
    exact W.zret (v := iI 1) (ty := .boolean) hx hb hr (nb_bool (by omega) (by omega)) (fun t ht hW => ⟨⟨iI 1, (), rfl, ⟨1, rfl, by omega⟩, trivial⟩, hS.F ht⟩) hS.2.2 dX12_canLean_37
  · refine lv_aload_n hx hb dX12_canLean_5 rfl (lv_at hl 0 rfl) ?_
    have h_2 : ok L K (v p0 14) 5 := xf_12_14 hI q0
    refine gx_RX12_66 (y := v p0 14) hx hb hj hown hK hP q0 ((xf_12_14 hI q0).1) rfl dX12_canLean_6 ?_
    refine lv_iload_n hx hb dX12_canLean_9 rfl (lv_at hl 1 rfl) ?_
    refine lv_aload_n hx hb dX12_canLean_10 rfl (lv_at hl 0 rfl) ?_
    have h_3 : 0 ≤ v p0 0 ∧ v p0 0 ≤ 2000 := xf_12_0 hI q0
    refine gx_RX12_133 (y := v p0 0) hx hb hj hown hK hP q0 rfl dX12_canLean_11 ?_
    refine jc_i (va_runV (As := [.int (iI p1), .int (iI (v p0 0))]) (rest := []) ⟨hx, hb, hml, hown, hts⟩ (sX5_valueOn l dC dI _ L cid K N tW sK sV v (v p0 14) p1 (v p0 0) hI h_2 (by omega) (by omega)) (cwV 2 hts (jgoodV m_1105 m_1106 m_1107 m_923 m_1108) rfl rfl rfl (by decide +kernel) ⟨(Nat.le_of_ble_eq_true rfl), (Nat.le_of_ble_eq_true rfl)⟩) ⟨xP_blind, xrecv hK hP h_2 rfl rfl, fun U hU hW => ⟨rfl, xP_of hU hW hP hK hDw hX hS hAw hAA⟩⟩ rfl rfl hl.1 rfl (lv_room (Nat.le_of_ble_eq_true rfl)) dX12_canLean_14 ⟨(Nat.le_of_ble_eq_true rfl), (Nat.le_of_ble_eq_true rfl)⟩) hP hS hA (fun r_4 H locs w_5 hP hS => ?_)
    obtain ⟨z_6, rfl, h_7⟩ := w_5
    refine lv_iconst (v := iI (-1)) hx hb dX12_canLean_17 rfl ?_
    refine xr_icmp_ne (tgt := 32) hx hb dX12_canLean_18 (by decide) (by omega) (by omega) (fun h_8 => ?_) (fun h_8 => ?_)
    · refine lv_iconst (v := iI 1) hx hb dX12_canLean_32 rfl ?_
      refine lv_goto (tgt := 37) hx hb dX12_canLean_33 (by decide) ?_
      rw [← hQ]
      exact W.zret (v := iI 1) (ty := .boolean) hx hb hr (nb_bool (by omega) (by omega)) (fun t ht hW => ⟨⟨iI 1, (), rfl, ⟨1, rfl, by omega⟩, trivial⟩, hS.F ht⟩) hS.2.2 dX12_canLean_37
    · refine lv_aload_n hx hb dX12_canLean_21 rfl (lv_at hl 0 rfl) ?_
      refine lv_iload_n hx hb dX12_canLean_22 rfl (lv_at hl 1 rfl) ?_
      refine lv_bipush (v := iI 100) hx hb dX12_canLean_23 rfl ?_
      refine xr_sub hx hb dX12_canLean_25 ?_
      refine xr_kept (fun z_9 h_10 h_11 => ?_)
      refine jc_q (va_runV (As := [.int (iI z_9)]) (rest := []) ⟨hx, hb, hml, hown, hts⟩ (sX12_lineAt l dC dI _ L cid K N tW sK sV v p0 z_9 hI q0 (by omega)) (cwV 1 hts (jgoodV m_1109 m_1110 m_1111 m_873 m_1112) rfl rfl rfl (by decide +kernel) ⟨(Nat.le_of_ble_eq_true rfl), (Nat.le_of_ble_eq_true rfl)⟩) ⟨xP_blind, xrecv hK hP q0 rfl rfl, fun U hU hW => ⟨rfl, xP_of hU hW hP hK hDw hX hS hAw hAA⟩⟩ rfl rfl hl.1 rfl (lv_room (Nat.le_of_ble_eq_true rfl)) dX12_canLean_26 ⟨(Nat.le_of_ble_eq_true rfl), (Nat.le_of_ble_eq_true rfl)⟩) hP hS hA (fun r_12 H locs w_13 hP hS => ?_)
      obtain ⟨z_14, rfl, h_15⟩ := w_13
      refine jt_q (rv z_14) rfl ?_
      refine xq_ifnull (tgt := 36) hx hb dX12_canLean_29 (by decide) (fun h_16 => ?_) (fun h_16 => ?_)
      · refine lv_iconst (v := iI 0) hx hb dX12_canLean_36 rfl ?_
        rw [← hQ]
        exact W.zret (v := iI 0) (ty := .boolean) hx hb hr (nb_bool (by omega) (by omega)) (fun t ht hW => ⟨⟨iI 0, (), rfl, ⟨0, rfl, by omega⟩, trivial⟩, hS.F ht⟩) hS.2.2 dX12_canLean_37
      · have h_17 : ok L K z_14 4 := h_15.resolve_left (by omega)
        refine lv_iconst (v := iI 1) hx hb dX12_canLean_32 rfl ?_
        refine lv_goto (tgt := 37) hx hb dX12_canLean_33 (by decide) ?_
        rw [← hQ]
        exact W.zret (v := iI 1) (ty := .boolean) hx hb hr (nb_bool (by omega) (by omega)) (fun t ht hW => ⟨⟨iI 1, (), rfl, ⟨1, rfl, by omega⟩, trivial⟩, hS.F ht⟩) hS.2.2 dX12_canLean_37
set_option maxHeartbeats 2000000 in
set_option maxRecDepth 100000 in
theorem sX12_lean (l : Launch) (dC : Nat → ClassId) (dI : Nat → Nat → Nat) (sz : Nat) (L : List Nat) (cid : Nat → ClassId) (K : Int → Nat) (N : Int → Int) (tW : Nat) (sK sV : Nat → Nat) (v : Int → Int → Int) (p0 : Int) (p1 : Int) (p2 : Int) (hI : xI L K N v) (q0 : ok L K p0 12) (q1 : ok L K p1 4) (q2 : rg p2) : Met l yX12_lean (jk yX12_lean cX12_lean 4 none) ({ frames := 2, cells := 0, slots := 0, locals := 47 }) (va_Pc [.ref p0.toNat, .ref p1.toNat, .int (iI p2)] (xP (dC, dI) (xG L cid K N v) (xT cid) tW sK sV sz)) (va_Qv (fun (u : (Int → Int → Int)) => (xI L K N u) ∧ (fr K [(4, 3), (4, 4), (4, 5), (4, 6)] u v)) (fun u t => va_P (dC, dI) vwCl (xG L cid K N u) t.heap ∧ va_K (dC, dI) vwCl (xT cid) t ∧ va_D (va_A (xG L cid K N v) sz) (xG L cid K N u)) (va_A (xG L cid K N v) sz)) 0 0 (va_A (xG L cid K N v) sz) := by
  refine Met.ofW (cc := cX12_lean) (maxL := 4) (ret := none) (by decide) rfl ?_
  intro p e s m args below meth c s₁ B hml hv
  obtain ⟨rfl, ⟨hsz, hP, hK, hD0⟩, hX⟩ := hv
  have hx := B.exec
  have hb := B.bytes
  have hr := B.returns
  have hts := atoms_spec (ws := (jk yX12_lean cX12_lean 4 none)) B.pre
  have hj : ∀ w ∈ jw, w.before ([.ref p0.toNat, .ref p1.toNat, .int (iI p2)] : List Value).toArray s = true := fun w h => hts w (jm h)
  have hown : s.vm.findClass RX12 = some m.cls := findClass_of_methodNamed B.named
  subst hsz
  have hD := hD0.self (sz := s.heap.size)
  generalize hAe : (va_A (xG L cid K N v) s.heap.size) = A at hD hX ⊢
  have hA : ∀ q : Nat, s.heap.size ≤ q → A q := fun q h => by rw [← hAe]; exact Or.inr h
  have hS : va_S A s.heap s.heap [] := va_S.rf
  have hXa := hX
  have hP : va_P (dC, dI) vwCl (xG L cid K N v) s.heap := hP
  have hl := lv_entry ([.ref p0.toNat, .ref p1.toNat, .int (iI p2)]) (n := 4) (Nat.le_of_ble_eq_true rfl)
  rw [lg_entry_eq]
  generalize (lg_sl ([.ref p0.toNat, .ref p1.toNat, .int (iI p2)]) ++ List.replicate (4 - (lg_sl ([.ref p0.toNat, .ref p1.toNat, .int (iI p2)])).length) Slot.unset).toArray = ls at hl ⊢
  have hl : lv_has ls 4 [(0, .ref p0.toNat), (1, .ref p1.toNat), (2, .int (iI p2))] := hl
  generalize hQ : MQ below (va_Qv (fun (u : (Int → Int → Int)) => (xI L K N u) ∧ (fr K [(4, 3), (4, 4), (4, 5), (4, 6)] u v)) (fun u t => va_P (dC, dI) vwCl (xG L cid K N u) t.heap ∧ va_K (dC, dI) vwCl (xT cid) t ∧ va_D A (xG L cid K N u)) A) ([.ref p0.toNat, .ref p1.toNat, .int (iI p2)] : List Value).toArray s 0 0 A = Q
  suffices ST : ∀ (H : Heap) (locs : List Loc), va_P (dC, dI) vwCl (xG L cid K N v) H → va_S A s.heap H locs → W p l e ({ frames := 2, cells := 0, slots := 0, locals := 47 }) s m ([.ref p0.toNat, .ref p1.toNat, .int (iI p2)] : List Value).toArray below meth c H locs 0 0 Q (F0 m 0 ls []) from ST _ _ hP hS
  clear hP hS
  intro H locs hP hS
  refine lv_aload_n hx hb dX12_lean_0 rfl (lv_at hl 0 rfl) ?_
  refine lv_iload_n hx hb dX12_lean_1 rfl (lv_at hl 2 rfl) ?_
  refine lv_bipush (v := iI 100) hx hb dX12_lean_2 rfl ?_
  refine xr_sub hx hb dX12_lean_4 ?_
  refine xr_kept (fun z_1 h_2 h_3 => ?_)
  refine jc_q (va_runV (As := [.int (iI z_1)]) (rest := []) ⟨hx, hb, hml, hown, hts⟩ (sX12_lineAt l dC dI _ L cid K N tW sK sV v p0 z_1 hI q0 (by omega)) (cwV 1 hts (jgoodV m_1109 m_1110 m_1111 m_873 m_1112) rfl rfl rfl (by decide +kernel) ⟨(Nat.le_of_ble_eq_true rfl), (Nat.le_of_ble_eq_true rfl)⟩) ⟨xP_blind, xrecv hK hP q0 rfl rfl, fun U hU hW => ⟨rfl, xP_of hU hW hP hK hD hX hS (fun _ h => h) hA⟩⟩ rfl rfl hl.1 rfl (lv_room (Nat.le_of_ble_eq_true rfl)) dX12_lean_5 ⟨(Nat.le_of_ble_eq_true rfl), (Nat.le_of_ble_eq_true rfl)⟩) hP hS hA (fun r_4 H locs w_5 hP hS => ?_)
  obtain ⟨z_6, rfl, h_7⟩ := w_5
  refine jt_q (rv z_6) rfl ?_
  refine xq_astore_n (i := 3) (lv' := [(3, rv z_6), (0, .ref p0.toNat), (1, .ref p1.toNat), (2, .int (iI p2))]) hx hb dX12_lean_8 rfl hl (by decide) rfl (fun ls hl => ?_)
  refine lv_iload_n hx hb dX12_lean_9 rfl (lv_at hl 3 rfl) ?_
  refine lv_iconst (v := iI (-1)) hx hb dX12_lean_10 rfl ?_
  refine xr_icmp_ne (tgt := 22) hx hb dX12_lean_11 (by decide) (by omega) (by omega) (fun h_8 => ?_) (fun h_8 => ?_)
  · refine xq_aload_n hx hb dX12_lean_22 rfl (lv_at hl 0 rfl) ?_
    refine xq_ifnonnull (tgt := 58) hx hb dX12_lean_23 (by decide) (fun h_9 => ?_) (fun h_9 => ?_)
    · have h_10 : ok L K z_6 4 := h_7.resolve_left (by omega)
      refine lv_aload_n hx hb dX12_lean_58 rfl (lv_at hl 2 rfl) ?_
      refine lv_iload_n hx hb dX12_lean_59 rfl (lv_at hl 3 rfl) ?_
      refine lv_bipush (v := iI 100) hx hb dX12_lean_60 rfl ?_
      refine xr_sub hx hb dX12_lean_62 ?_
      refine xr_kept (fun z_11 h_12 h_13 => ?_)
      refine px_RX12_402 (y := z_11) hx hb hj hown hK hP hD hS hI q1 ⟨by omega, by omega⟩ dX12_lean_63 (fun v_14 H locs f_15 e_16 o_17 I_18 hP hD hS => ?_)
      refine lv_aload_n hx hb dX12_lean_66 rfl (lv_at hl 2 rfl) ?_
      refine xq_aload_n hx hb dX12_lean_67 rfl (lv_at hl 0 rfl) ?_
      refine jt_q (.ref z_6.toNat) (rv_ref (h_10).1) ?_
      have h_19 : (-2147483648) ≤ v z_6 5 ∧ v z_6 5 ≤ 2147483647 := xf_4_5 hI h_10
      refine gx_RX12_396 (y := v z_6 5) hx hb hj hown hK hP h_10 (fr_use h_10 f_15 rfl) dX12_lean_68 ?_
      refine px_RX12_396 (y := v z_6 5) hx hb hj hown hK hP hD hS I_18 q1 ⟨by omega, by omega⟩ dX12_lean_71 (fun v_20 H locs f_21 e_22 o_23 I_24 hP hD hS => ?_)
      rw [← hQ]
      exact W.vret hx hb hr (fun t ht hW => ⟨⟨v_20, rfl, ⟨I_24, (fr_tr f_21 rfl (fr_tr f_15 rfl fr_rf))⟩, by rw [ht]; exact hP, va_K.moved hW.alike hK, hD⟩, hS.F ht⟩) hS.2.2 dX12_lean_74
    · refine lv_aload_n hx hb dX12_lean_26 rfl (lv_at hl 2 rfl) ?_
      refine lv_iload_n hx hb dX12_lean_27 rfl (lv_at hl 3 rfl) ?_
      refine px_RX12_385 (y := p2) hx hb hj hown hK hP hD hS hI q1 ⟨by omega, by omega⟩ dX12_lean_28 (fun v_25 H locs f_26 e_27 o_28 I_29 hP hD hS => ?_)
      refine lv_aload_n hx hb dX12_lean_31 rfl (lv_at hl 2 rfl) ?_
      refine lv_aload_n hx hb dX12_lean_32 rfl (lv_at hl 1 rfl) ?_
      have h_30 : ok L K (v p0 14) 5 := xf_12_14 hI q0
      refine gx_RX12_66 (y := v p0 14) hx hb hj hown hK hP q0 ((xf_12_14 I_29 q0).1) (fr_use q0 f_26 rfl) dX12_lean_33 ?_
      refine lv_iload_n hx hb dX12_lean_36 rfl (lv_at hl 3 rfl) ?_
      refine lv_aload_n hx hb dX12_lean_37 rfl (lv_at hl 1 rfl) ?_
      have h_31 : 0 ≤ v p0 0 ∧ v p0 0 ≤ 2000 := xf_12_0 hI q0
      refine gx_RX12_133 (y := v p0 0) hx hb hj hown hK hP q0 (fr_use q0 f_26 rfl) dX12_lean_38 ?_
      refine jc_i (va_runV (As := [.int (iI p2), .int (iI (v p0 0))]) (rest := [.ref p1.toNat]) ⟨hx, hb, hml, hown, hts⟩ (sX5_valueOn l dC dI _ L cid K N tW sK sV v_25 (v p0 14) p2 (v p0 0) I_29 h_30 (by omega) (by omega)) (cwV 2 hts (jgoodV m_1105 m_1106 m_1107 m_923 m_1108) rfl rfl rfl (by decide +kernel) ⟨(Nat.le_of_ble_eq_true rfl), (Nat.le_of_ble_eq_true rfl)⟩) ⟨xP_blind, xrecv hK hP h_30 rfl rfl, fun U hU hW => ⟨rfl, xP_of hU hW hP hK hD hX hS (fun _ h => h) hA⟩⟩ rfl rfl hl.1 rfl (lv_room (Nat.le_of_ble_eq_true rfl)) dX12_lean_41 ⟨(Nat.le_of_ble_eq_true rfl), (Nat.le_of_ble_eq_true rfl)⟩) hP hS hA (fun r_32 H locs w_33 hP hS => ?_)
      obtain ⟨z_34, rfl, h_35⟩ := w_33
      refine px_RX12_399 (y := z_34) hx hb hj hown hK hP hD hS I_29 q1 ⟨by omega, by omega⟩ dX12_lean_44 (fun v_36 H locs f_37 e_38 o_39 I_40 hP hD hS => ?_)
      refine lv_aload_n hx hb dX12_lean_47 rfl (lv_at hl 2 rfl) ?_
      refine lv_aload_n hx hb dX12_lean_48 rfl (lv_at hl 1 rfl) ?_
      have h_41 : 0 ≤ v p0 13 ∧ v p0 13 ≤ 300 := xf_12_13 hI q0
      refine gx_RX12_370 (y := v p0 13) hx hb hj hown hK hP q0 (((fr_use q0 f_37 rfl)).trans (fr_use q0 f_26 rfl)) dX12_lean_49 ?_
      refine px_RX12_396 (y := v p0 13) hx hb hj hown hK hP hD hS I_40 q1 ⟨by omega, by omega⟩ dX12_lean_52 (fun v_42 H locs f_43 e_44 o_45 I_46 hP hD hS => ?_)
      refine lv_goto (tgt := 74) hx hb dX12_lean_55 (by decide) ?_
      rw [← hQ]
      exact W.vret hx hb hr (fun t ht hW => ⟨⟨v_42, rfl, ⟨I_46, (fr_tr f_43 rfl (fr_tr f_37 rfl (fr_tr f_26 rfl fr_rf)))⟩, by rw [ht]; exact hP, va_K.moved hW.alike hK, hD⟩, hS.F ht⟩) hS.2.2 dX12_lean_74
  · refine lv_aload_n hx hb dX12_lean_14 rfl (lv_at hl 2 rfl) ?_
    refine lv_iconst (v := iI (-1)) hx hb dX12_lean_15 rfl ?_
    refine px_RX12_396 (y := (-1)) hx hb hj hown hK hP hD hS hI q1 ⟨by omega, by omega⟩ dX12_lean_16 (fun v_47 H locs f_48 e_49 o_50 I_51 hP hD hS => ?_)
    refine lv_goto (tgt := 74) hx hb dX12_lean_19 (by decide) ?_
    rw [← hQ]
    exact W.vret hx hb hr (fun t ht hW => ⟨⟨v_47, rfl, ⟨I_51, (fr_tr f_48 rfl fr_rf)⟩, by rw [ht]; exact hP, va_K.moved hW.alike hK, hD⟩, hS.F ht⟩) hS.2.2 dX12_lean_74
