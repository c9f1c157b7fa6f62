set_option maxHeartbeats 2000000 in
set_option maxRecDepth 100000 in
theorem sX12_die (l : Launch) (dC : Nat → ClassId) (dI : Nat → Nat → Nat) (sz : Nat) (L : List Nat) (cid : Nat → ClassId) (K : Int → Nat) (N : Int → Int) (tW : Nat) (sK sV : Nat → Nat) (v : Int → Int → Int) (p0 : Int) (p1 : Int) (hI : xI L K N v) (q0 : ok L K p0 12) (q1 : rg p1) : Met l yX12_die (jk yX12_die cX12_die 3 (some .int)) ({ frames := 2, cells := 0, slots := 0, locals := 45 }) (va_Pc [.ref p0.toNat, .int (iI p1)] (xP (dC, dI) (xG L cid K N v) (xT cid) tW sK sV sz)) (va_Qi (fun (r : Int32) (u : (Int → Int → Int)) => ∃ z : Int, r = iI z ∧ (xI L K N u) ∧ (fr K [(2, 3)] u v) ∧ (rg z)) (fun u t => va_P (dC, dI) vwCl (xG L cid K N u) t.heap ∧ va_K (dC, dI) vwCl (xT cid) t ∧ va_D (va_A (xG L cid K N v) sz) (xG L cid K N u)) (va_A (xG L cid K N v) sz)) 0 0 (va_A (xG L cid K N v) sz) := by
  refine Met.ofW (cc := cX12_die) (maxL := 3) (ret := (some .int)) (by decide) rfl ?_
  intro p e s m args below meth c s₁ B hml hv
  obtain ⟨rfl, ⟨hsz, hP, hK, hD0⟩, hX⟩ := hv
  have hx := B.exec
  have hb := B.bytes
  have hr := B.returns
  have hts := atoms_spec (ws := (jk yX12_die cX12_die 3 (some .int))) B.pre
  have hj : ∀ w ∈ jw, w.before ([.ref p0.toNat, .int (iI p1)] : List Value).toArray s = true := fun w h => hts w (jm h)
  have hown : s.vm.findClass RX12 = some m.cls := findClass_of_methodNamed B.named
  subst hsz
  have hD := hD0.self (sz := s.heap.size)
  generalize hAe : (va_A (xG L cid K N v) s.heap.size) = A at hD hX ⊢
  have hA : ∀ q : Nat, s.heap.size ≤ q → A q := fun q h => by rw [← hAe]; exact Or.inr h
  have hS : va_S A s.heap s.heap [] := va_S.rf
  have hXa := hX
  have hP : va_P (dC, dI) vwCl (xG L cid K N v) s.heap := hP
  have hl := lv_entry ([.ref p0.toNat, .int (iI p1)]) (n := 3) (Nat.le_of_ble_eq_true rfl)
  rw [lg_entry_eq]
  generalize (lg_sl ([.ref p0.toNat, .int (iI p1)]) ++ List.replicate (3 - (lg_sl ([.ref p0.toNat, .int (iI p1)])).length) Slot.unset).toArray = ls at hl ⊢
  have hl : lv_has ls 3 [(0, .ref p0.toNat), (1, .int (iI p1))] := hl
  generalize hQ : MQ below (va_Qi (fun (r : Int32) (u : (Int → Int → Int)) => ∃ z : Int, r = iI z ∧ (xI L K N u) ∧ (fr K [(2, 3)] u v) ∧ (rg z)) (fun u t => va_P (dC, dI) vwCl (xG L cid K N u) t.heap ∧ va_K (dC, dI) vwCl (xT cid) t ∧ va_D A (xG L cid K N u)) A) ([.ref p0.toNat, .int (iI p1)] : List Value).toArray s 0 0 A = Q
  suffices ST : ∀ (H : Heap) (locs : List Loc), va_P (dC, dI) vwCl (xG L cid K N v) H → va_S A s.heap H locs → W p l e ({ frames := 2, cells := 0, slots := 0, locals := 45 }) s m ([.ref p0.toNat, .int (iI p1)] : List Value).toArray below meth c H locs 0 0 Q (F0 m 0 ls []) from ST _ _ hP hS
  clear hP hS
  intro H locs hP hS
  refine lv_aload_n hx hb dX12_die_0 rfl (lv_at hl 0 rfl) ?_
  refine lv_iload_n hx hb dX12_die_1 rfl (lv_at hl 1 rfl) ?_
  refine jc_q (va_runV (As := [.int (iI p1)]) (rest := []) ⟨hx, hb, hml, hown, hts⟩ (sX12_livingHandAt l dC dI _ L cid K N tW sK sV v p0 p1 hI q0 (by omega)) (cwV 1 hts (jgoodV m_1089 m_1090 m_1091 m_873 m_1092) rfl rfl rfl (by decide +kernel) ⟨(Nat.le_of_ble_eq_true rfl), (Nat.le_of_ble_eq_true rfl)⟩) ⟨xP_blind, xrecv hK hP q0 rfl rfl, fun U hU hW => ⟨rfl, xP_of hU hW hP hK hD hX hS (fun _ h => h) hA⟩⟩ rfl rfl hl.1 rfl (lv_room (Nat.le_of_ble_eq_true rfl)) dX12_die_2 ⟨(Nat.le_of_ble_eq_true rfl), (Nat.le_of_ble_eq_true rfl)⟩) hP hS hA (fun r_1 H locs w_2 hP hS => ?_)
  obtain ⟨z_3, rfl, h_4⟩ := w_2
  refine jt_q (rv z_3) rfl ?_
  refine xq_astore_n (i := 2) (lv' := [(2, rv z_3), (0, .ref p0.toNat), (1, .int (iI p1))]) hx hb dX12_die_5 rfl hl (by decide) rfl (fun ls hl => ?_)
  refine xq_aload_n hx hb dX12_die_6 rfl (lv_at hl 0 rfl) ?_
  refine xq_ifnonnull (tgt := 12) hx hb dX12_die_7 (by decide) (fun h_5 => ?_) (fun h_5 => ?_)
  · have h_6 : ok L K z_3 2 := h_4.resolve_left (by omega)
    refine xq_aload_n hx hb dX12_die_12 rfl (lv_at hl 0 rfl) ?_
    refine jt_q (.ref z_3.toNat) (rv_ref (h_6).1) ?_
    refine lv_iconst (v := iI 0) hx hb dX12_die_13 rfl ?_
    refine px_RX12_300 (y := 0) hx hb hj hown hK hP hD hS hI h_6 ⟨by omega, by omega⟩ dX12_die_14 (fun v_7 H locs f_8 e_9 o_10 I_11 hP hD hS => ?_)
    refine lv_aload_n hx hb dX12_die_17 rfl (lv_at hl 1 rfl) ?_
    refine lv_iload_n hx hb dX12_die_18 rfl (lv_at hl 2 rfl) ?_
    refine jc_i (va_runV (As := [.int (iI p1)]) (rest := []) ⟨hx, hb, hml, hown, hts⟩ (sX12_unfinished l dC dI _ L cid K N tW sK sV v_7 p0 p1 I_11 q0 (by omega)) (cwV 1 hts (jgoodV m_1080 m_1081 m_1082 m_873 m_1083) rfl rfl rfl (by decide +kernel) ⟨(Nat.le_of_ble_eq_true rfl), (Nat.le_of_ble_eq_true rfl)⟩) ⟨xP_blind, xrecv hK hP q0 rfl rfl, fun U hU hW => ⟨rfl, xP_of hU hW hP hK hD hX hS (fun _ h => h) hA⟩⟩ rfl rfl hl.1 rfl (lv_room (Nat.le_of_ble_eq_true rfl)) dX12_die_19 ⟨(Nat.le_of_ble_eq_true rfl), (Nat.le_of_ble_eq_true rfl)⟩) hP hS hA (fun r_12 H locs w_13 hP hS => ?_)
    obtain ⟨z_14, rfl, h_15⟩ := w_13
    rw [← hQ]
    exact W.iret (v := iI z_14) hx hb hr (fun t ht hW => ⟨⟨iI z_14, v_7, rfl, ⟨z_14, rfl, I_11, (fr_tr f_8 rfl fr_rf), by omega⟩, by rw [ht]; exact hP, va_K.moved hW.alike hK, hD⟩, hS.F ht⟩) hS.2.2 dX12_die_22
  · refine lv_iconst (v := iI (-1)) hx hb dX12_die_10 rfl ?_
    rw [← hQ]
    exact W.iret (v := iI (-1)) hx hb hr (fun t ht hW => ⟨⟨iI (-1), v, rfl, ⟨(-1), rfl, hI, fr_rf, by omega⟩, by rw [ht]; exact hP, va_K.moved hW.alike hK, hD⟩, hS.F ht⟩) hS.2.2 dX12_die_11
set_option maxHeartbeats 2000000 in
set_option maxRecDepth 100000 in
theorem sX12_hangs (l : Launch) (dC : Nat → ClassId) (dI : Nat → Nat → Nat) (sz : Nat) (L : List Nat) (cid : Nat → ClassId) (K : Int → Nat) (N : Int → Int) (tW : Nat) (sK sV : Nat → Nat) (v : Int → Int → Int) (p0 : Int) (p1 : Int) (hI : xI L K N v) (q0 : ok L K p0 12) (q1 : ok L K p1 0) : Met l yX12_hangs (jk yX12_hangs cX12_hangs 3 (some .boolean)) ({ frames := 1, cells := 0, slots := 0, locals := 21 }) (va_Pc [.ref p0.toNat, .ref p1.toNat] (xP (dC, dI) (xG L cid K N v) (xT cid) tW sK sV sz)) (va_Qi (fun (r : Int32) (_ : Unit) => ∃ z : Int, r = iI z ∧ (0 ≤ z ∧ z ≤ 1)) (fun _ _ => True) (va_A [] sz)) 0 0 (va_A [] sz) := by
  refine Met.ofW (cc := cX12_hangs) (maxL := 3) (ret := (some .boolean)) (by decide) rfl ?_
  intro p e s m args below meth c s₁ B hml hv
  obtain ⟨rfl, ⟨hsz, hP, hK, hD0⟩, hX⟩ := hv
  have hx := B.exec
  have hb := B.bytes
  have hr := B.returns
  have hts := atoms_spec (ws := (jk yX12_hangs cX12_hangs 3 (some .boolean))) B.pre
  have hj : ∀ w ∈ jw, w.before ([.ref p0.toNat, .ref p1.toNat] : List Value).toArray s = true := fun w h => hts w (jm h)
  have hown : s.vm.findClass RX12 = some m.cls := findClass_of_methodNamed B.named
  subst hsz
  have hDw := hD0.self (sz := s.heap.size)
  have hAA : ∀ q : Nat, s.heap.size ≤ q → va_A (xG L cid K N v) s.heap.size q := fun q h => Or.inr h
  have hAw : ∀ q, va_A [] s.heap.size q → va_A (xG L cid K N v) s.heap.size q := ja_nil va_S.rf hAA
  generalize hAe : (va_A [] s.heap.size) = A at hAw ⊢
  have hA : ∀ q : Nat, s.heap.size ≤ q → A q := fun q h => by rw [← hAe]; exact Or.inr h
  have hS : va_S A s.heap s.heap [] := va_S.rf
  have hXa := hX.nar hAw
  have hP : va_P (dC, dI) vwCl (xG L cid K N v) s.heap := hP
  have hl := lv_entry ([.ref p0.toNat, .ref p1.toNat]) (n := 3) (Nat.le_of_ble_eq_true rfl)
  rw [lg_entry_eq]
  generalize (lg_sl ([.ref p0.toNat, .ref p1.toNat]) ++ List.replicate (3 - (lg_sl ([.ref p0.toNat, .ref p1.toNat])).length) Slot.unset).toArray = ls at hl ⊢
  have hl : lv_has ls 3 [(0, .ref p0.toNat), (1, .ref p1.toNat)] := hl
  generalize hQ : MQ below (va_Qi (fun (r : Int32) (_ : Unit) => ∃ z : Int, r = iI z ∧ (0 ≤ z ∧ z ≤ 1)) (fun _ _ => True) A) ([.ref p0.toNat, .ref p1.toNat] : List Value).toArray s 0 0 A = Q
  suffices ST : ∀ (H : Heap) (locs : List Loc), va_P (dC, dI) vwCl (xG L cid K N v) H → va_S A s.heap H locs → W p l e ({ frames := 1, cells := 0, slots := 0, locals := 21 }) s m ([.ref p0.toNat, .ref p1.toNat] : List Value).toArray below meth c H locs 0 0 Q (F0 m 0 ls []) from ST _ _ hP hS
  clear hP hS
  intro H locs hP hS
  refine lv_aload_n hx hb dX12_hangs_0 rfl (lv_at hl 0 rfl) ?_
  refine lv_aload_n hx hb dX12_hangs_1 rfl (lv_at hl 1 rfl) ?_
  have h_1 : (-2147483648) ≤ v p1 14 ∧ v p1 14 ≤ 2147483647 := xf_0_14 hI q1
  refine gx_RX12_313 (y := v p1 14) hx hb hj hown hK hP q1 rfl dX12_hangs_2 ?_
  refine jc_q (va_runV (As := [.int (iI (v p1 14))]) (rest := []) ⟨hx, hb, hml, hown, hts⟩ (sX12_handAt l dC dI _ L cid K N tW sK sV v p0 (v p1 14) hI q0 (by omega)) (cwV 1 hts (jgoodV m_1056 m_1057 m_1058 m_873 m_1059) rfl rfl rfl (by decide +kernel) ⟨(Nat.le_of_ble_eq_true rfl), (Nat.le_of_ble_eq_true rfl)⟩) ⟨xP_blind, xrecv hK hP q0 rfl rfl, fun U hU hW => ⟨rfl, xP_of hU hW hP hK hDw hX hS hAw hAA⟩⟩ rfl rfl hl.1 rfl (lv_room (Nat.le_of_ble_eq_true rfl)) dX12_hangs_5 ⟨(Nat.le_of_ble_eq_true rfl), (Nat.le_of_ble_eq_true rfl)⟩) hP hS hA (fun r_2 H locs w_3 hP hS => ?_)
  obtain ⟨z_4, rfl, h_5⟩ := w_3
  refine jt_q (rv z_4) rfl ?_
  refine xq_astore_n (i := 2) (lv' := [(2, rv z_4), (0, .ref p0.toNat), (1, .ref p1.toNat)]) hx hb dX12_hangs_8 rfl hl (by decide) rfl (fun ls hl => ?_)
  refine xq_aload_n hx hb dX12_hangs_9 rfl (lv_at hl 0 rfl) ?_
  refine xq_ifnull (tgt := 35) hx hb dX12_hangs_10 (by decide) (fun h_6 => ?_) (fun h_6 => ?_)
  · refine lv_iconst (v := iI 0) hx hb dX12_hangs_35 rfl ?_
    rw [← hQ]
    exact W.zret (v := iI 0) (ty := .boolean) hx hb hr (nb_bool (by omega) (by omega)) (fun t ht hW => ⟨⟨iI 0, (), rfl, ⟨0, rfl, by omega⟩, trivial⟩, hS.F ht⟩) hS.2.2 dX12_hangs_36
  · have h_7 : ok L K z_4 2 := h_5.resolve_left (by omega)
    refine xq_aload_n hx hb dX12_hangs_13 rfl (lv_at hl 0 rfl) ?_
    refine jt_q (.ref z_4.toNat) (rv_ref (h_7).1) ?_
    have h_8 : 0 ≤ v z_4 3 ∧ v z_4 3 ≤ 1 := xf_2_3 hI h_7
    refine gx_RX12_300 (y := v z_4 3) hx hb hj hown hK hP h_7 rfl dX12_hangs_14 ?_
    refine xr_if_ne (tgt := 35) hx hb dX12_hangs_17 (by decide) (by omega) (fun h_9 => ?_) (fun h_9 => ?_)
    · refine lv_iconst (v := iI 0) hx hb dX12_hangs_35 rfl ?_
      rw [← hQ]
      exact W.zret (v := iI 0) (ty := .boolean) hx hb hr (nb_bool (by omega) (by omega)) (fun t ht hW => ⟨⟨iI 0, (), rfl, ⟨0, rfl, by omega⟩, trivial⟩, hS.F ht⟩) hS.2.2 dX12_hangs_36
    · refine lv_aload_n hx hb dX12_hangs_20 rfl (lv_at hl 2 rfl) ?_
      refine lv_aload_n hx hb dX12_hangs_21 rfl (lv_at hl 2 rfl) ?_
      refine gx_RX12_313 (y := v p1 14) hx hb hj hown hK hP q1 rfl dX12_hangs_22 ?_
      refine jc_i (va_runV (As := [.int (iI (v p1 14))]) (rest := []) ⟨hx, hb, hml, hown, hts⟩ (sX0_isUnfinishedOf l dC dI _ L cid K N tW sK sV v p1 (v p1 14) hI q1 (by omega)) (cwV 1 hts (jgoodV m_1064 m_1065 m_1066 m_666 m_1067) rfl rfl rfl (by decide +kernel) ⟨(Nat.le_of_ble_eq_true rfl), (Nat.le_of_ble_eq_true rfl)⟩) ⟨xP_blind, xrecv hK hP q1 rfl rfl, fun U hU hW => ⟨rfl, xP_of hU hW hP hK hDw hX hS hAw hAA⟩⟩ rfl rfl hl.1 rfl (lv_room (Nat.le_of_ble_eq_true rfl)) dX12_hangs_25 ⟨(Nat.le_of_ble_eq_true rfl), (Nat.le_of_ble_eq_true rfl)⟩) hP hS hA (fun r_10 H locs w_11 hP hS => ?_)
      obtain ⟨z_12, rfl, h_13⟩ := w_11
      refine xr_if_eq (tgt := 35) hx hb dX12_hangs_28 (by decide) (by omega) (fun h_14 => ?_) (fun h_14 => ?_)
      · refine lv_iconst (v := iI 0) hx hb dX12_hangs_35 rfl ?_
        rw [← hQ]
        exact W.zret (v := iI 0) (ty := .boolean) hx hb hr (nb_bool (by omega) (by omega)) (fun t ht hW => ⟨⟨iI 0, (), rfl, ⟨0, rfl, by omega⟩, trivial⟩, hS.F ht⟩) hS.2.2 dX12_hangs_36
      · refine lv_iconst (v := iI 1) hx hb dX12_hangs_31 rfl ?_
        refine lv_goto (tgt := 36) hx hb dX12_hangs_32 (by decide) ?_
        rw [← hQ]
        exact W.zret (v := iI 1) (ty := .boolean) hx hb hr (nb_bool (by omega) (by omega)) (fun t ht hW => ⟨⟨iI 1, (), rfl, ⟨1, rfl, by omega⟩, trivial⟩, hS.F ht⟩) hS.2.2 dX12_hangs_36
set_option maxHeartbeats 2000000 in
set_option maxRecDepth 100000 in
theorem sX12_takers (l : Launch) (dC : Nat → ClassId) (dI : Nat → Nat → Nat) (sz : Nat) (L : List Nat) (cid : Nat → ClassId) (K : Int → Nat) (N : Int → Int) (tW : Nat) (sK sV : Nat → Nat) (v : Int → Int → Int) (p0 : Int) (p1 : Int) (hI : xI L K N v) (q0 : ok L K p0 12) (q1 : rg p1) : Met l yX12_takers (jk yX12_takers cX12_takers 5 (some .int)) ({ frames := 6, cells := 0, slots := 0, locals := 162 }) (va_Pc [.ref p0.toNat, .int (iI p1)] (xP (dC, dI) (xG L cid K N v) (xT cid) tW sK sV sz)) (va_Qi (fun (r : Int32) (u : (Int → Int → Int)) => ∃ z : Int, r = iI z ∧ (xI L K N u) ∧ (fr K [(33, (-1)), (34, (-1))] u v) ∧ (rg z)) (fun u t => va_P (dC, dI) vwCl (xG L cid K N u) t.heap ∧ va_K (dC, dI) vwCl (xT cid) t ∧ va_D (va_A (xG L cid K N v) sz) (xG L cid K N u)) (va_A (xG L cid K N v) sz)) 0 0 (va_A (xG L cid K N v) sz) := by
  refine Met.ofW (cc := cX12_takers) (maxL := 5) (ret := (some .int)) (by decide) rfl ?_
  intro p e s m args below meth c s₁ B hml hv
  obtain ⟨rfl, ⟨hsz, hP, hK, hD0⟩, hX⟩ := hv
  have hx := B.exec
  have hb := B.bytes
  have hr := B.returns
  have hts := atoms_spec (ws := (jk yX12_takers cX12_takers 5 (some .int))) B.pre
  have hj : ∀ w ∈ jw, w.before ([.ref p0.toNat, .int (iI p1)] : List Value).toArray s = true := fun w h => hts w (jm h)
  have hown : s.vm.findClass RX12 = some m.cls := findClass_of_methodNamed B.named
  subst hsz
  have hD := hD0.self (sz := s.heap.size)
  generalize hAe : (va_A (xG L cid K N v) s.heap.size) = A at hD hX ⊢
  have hA : ∀ q : Nat, s.heap.size ≤ q → A q := fun q h => by rw [← hAe]; exact Or.inr h
  have hS : va_S A s.heap s.heap [] := va_S.rf
  have hXa := hX
  have hP : va_P (dC, dI) vwCl (xG L cid K N v) s.heap := hP
  have hl := lv_entry ([.ref p0.toNat, .int (iI p1)]) (n := 5) (Nat.le_of_ble_eq_true rfl)
  rw [lg_entry_eq]
  generalize (lg_sl ([.ref p0.toNat, .int (iI p1)]) ++ List.replicate (5 - (lg_sl ([.ref p0.toNat, .int (iI p1)])).length) Slot.unset).toArray = ls at hl ⊢
  have hl : lv_has ls 5 [(0, .ref p0.toNat), (1, .int (iI p1))] := hl
  generalize hQ : MQ below (va_Qi (fun (r : Int32) (u : (Int → Int → Int)) => ∃ z : Int, r = iI z ∧ (xI L K N u) ∧ (fr K [(33, (-1)), (34, (-1))] u v) ∧ (rg z)) (fun u t => va_P (dC, dI) vwCl (xG L cid K N u) t.heap ∧ va_K (dC, dI) vwCl (xT cid) t ∧ va_D A (xG L cid K N u)) A) ([.ref p0.toNat, .int (iI p1)] : List Value).toArray s 0 0 A = Q
  suffices ST : ∀ (H : Heap) (locs : List Loc), va_P (dC, dI) vwCl (xG L cid K N v) H → va_S A s.heap H locs → W p l e ({ frames := 6, cells := 0, slots := 0, locals := 162 }) s m ([.ref p0.toNat, .int (iI p1)] : List Value).toArray below meth c H locs 0 0 Q (F0 m 0 ls []) from ST _ _ hP hS
  clear hP hS
  intro H locs hP hS
  refine lv_aload_n hx hb dX12_takers_0 rfl (lv_at hl 0 rfl) ?_
  refine lv_iload_n hx hb dX12_takers_1 rfl (lv_at hl 1 rfl) ?_
  refine jc_q (va_runV (As := [.int (iI p1)]) (rest := []) ⟨hx, hb, hml, hown, hts⟩ (sX12_entryAt l dC dI _ L cid K N tW sK sV v p0 p1 hI q0 (by omega)) (cwV 1 hts (jgoodV m_870 m_871 m_872 m_873 m_874) rfl rfl rfl (by decide +kernel) ⟨(Nat.le_of_ble_eq_true rfl), (Nat.le_of_ble_eq_true rfl)⟩) ⟨xP_blind, xrecv hK hP q0 rfl rfl, fun U hU hW => ⟨rfl, xP_of hU hW hP hK hD hX hS (fun _ h => h) hA⟩⟩ rfl rfl hl.1 rfl (lv_room (Nat.le_of_ble_eq_true rfl)) dX12_takers_2 ⟨(Nat.le_of_ble_eq_true rfl), (Nat.le_of_ble_eq_true rfl)⟩) hP hS hA (fun r_1 H locs w_2 hP hS => ?_)
  obtain ⟨z_3, rfl, h_4⟩ := w_2
  refine jt_q (rv z_3) rfl ?_
  refine xq_astore_n (i := 2) (lv' := [(2, rv z_3), (0, .ref p0.toNat), (1, .int (iI p1))]) hx hb dX12_takers_5 rfl hl (by decide) rfl (fun ls hl => ?_)
  refine xq_aload_n hx hb dX12_takers_6 rfl (lv_at hl 0 rfl) ?_
  refine xq_ifnull (tgt := 18) hx hb dX12_takers_7 (by decide) (fun h_5 => ?_) (fun h_5 => ?_)
  · refine lv_iconst (v := iI (-1)) hx hb dX12_takers_18 rfl ?_
    rw [← hQ]
    exact W.iret (v := iI (-1)) hx hb hr (fun t ht hW => ⟨⟨iI (-1), v, rfl, ⟨(-1), rfl, hI, fr_rf, by omega⟩, by rw [ht]; exact hP, va_K.moved hW.alike hK, hD⟩, hS.F ht⟩) hS.2.2 dX12_takers_19
  · have h_6 : ok L K z_3 0 := h_4.resolve_left (by omega)
    refine lv_aload_n hx hb dX12_takers_10 rfl (lv_at hl 1 rfl) ?_
    refine xq_aload_n hx hb dX12_takers_11 rfl (lv_at hl 0 rfl) ?_
    refine jt_q (.ref z_3.toNat) (rv_ref (h_6).1) ?_
    refine jc_i (va_runV (As := [.ref z_3.toNat]) (rest := []) ⟨hx, hb, hml, hown, hts⟩ (sX12_hangs l dC dI _ L cid K N tW sK sV v p0 z_3 hI q0 h_6) (cwV 1 hts (jgoodV m_1113 m_1114 m_1115 m_873 m_1116) rfl rfl rfl (by decide +kernel) ⟨(Nat.le_of_ble_eq_true rfl), (Nat.le_of_ble_eq_true rfl)⟩) ⟨xP_blind, xrecv hK hP q0 rfl rfl, fun U hU hW => ⟨rfl, xP_of hU hW hP hK hD hX hS (fun _ h => h) hA⟩⟩ rfl rfl hl.1 rfl (lv_room (Nat.le_of_ble_eq_true rfl)) dX12_takers_12 ⟨(Nat.le_of_ble_eq_true rfl), (Nat.le_of_ble_eq_true rfl)⟩) hP hS hA (fun r_7 H locs w_8 hP hS => ?_)
    obtain ⟨z_9, rfl, h_10⟩ := w_8
    refine xr_if_ne (tgt := 20) hx hb dX12_takers_15 (by decide) (by omega) (fun h_11 => ?_) (fun h_11 => ?_)
    · refine lv_iconst (v := iI 0) hx hb dX12_takers_20 rfl ?_
      refine lv_istore_n (i := 3) (lv' := [(3, .int (iI 0)), (2, rv z_3), (0, .ref p0.toNat), (1, .int (iI p1))]) hx hb dX12_takers_21 rfl hl (by decide) (by simp [rv_cat]) (fun ls hl => ?_)
      refine lv_iconst (v := iI 0) hx hb dX12_takers_22 rfl ?_
      refine lv_istore (i := 4) (lv' := [(4, .int (iI 0)), (3, .int (iI 0)), (2, rv z_3), (0, .ref p0.toNat), (1, .int (iI p1))]) hx hb dX12_takers_23 hl (by decide) rfl (fun ls hl => ?_)
      have L25 : ∀ (n25 : Nat) (a4_25 a3_25 : Int) (vc25 : Int → Int → Int) (H : Heap) (locs : List Loc) (ls : Array Slot), (0 ≤ a4_25 ∧ a4_25 ≤ 2147483647) → ((-2147483648) ≤ a3_25 ∧ a3_25 ≤ 2147483647) → (0 < (n25 : Int) ∧ (v p0 11) - a4_25 < (n25 : Int)) → fr K [(33, (-1)), (34, (-1))] vc25 v → xI L K N vc25 → va_P (dC, dI) vwCl (xG L cid K N vc25) H → va_D A (xG L cid K N vc25) → va_S A s.heap H locs → lv_has ls 5 [(4, .int (iI a4_25)), (3, .int (iI a3_25)), (2, rv z_3), (0, .ref p0.toNat), (1, .int (iI p1))] → W p l e ({ frames := 6, cells := 0, slots := 0, locals := 162 }) s m ([.ref p0.toNat, .int (iI p1)] : List Value).toArray below meth c H locs 0 0 Q (F0 m 25 ls []) := by
        intro n25
        induction n25 with
        | zero =>
          intro a4_25 a3_25 vc25 H locs ls h_12 h_13 hm25 f_14 I_15 hP hD hS hl
          exfalso; omega
        | succ n25 ih25 =>
          intro a4_25 a3_25 vc25 H locs ls h_16 h_17 hm25 f_18 I_19 hP hD hS hl
          refine lv_iload hx hb dX12_takers_25 (lv_at hl 0 rfl) ?_
          refine lv_aload_n hx hb dX12_takers_27 rfl (lv_at hl 3 rfl) ?_
          have h_20 : 0 ≤ v p0 11 ∧ v p0 11 ≤ 12 := xf_12_11 hI q0
          refine gx_RX12_292 (y := v p0 11) hx hb hj hown hK hP q0 (fr_use q0 f_18 rfl) dX12_takers_28 ?_
          refine xr_icmp_ge (tgt := 57) hx hb dX12_takers_31 (by decide) (by omega) (by omega) (fun h_21 => ?_) (fun h_21 => ?_)
          · refine lv_iload_n hx hb dX12_takers_57 rfl (lv_at hl 1 rfl) ?_
            rw [← hQ]
            exact W.iret (v := iI a3_25) hx hb hr (fun t ht hW => ⟨⟨iI a3_25, vc25, rfl, ⟨a3_25, rfl, I_19, (fr_tr f_18 rfl fr_rf), by omega⟩, by rw [ht]; exact hP, va_K.moved hW.alike hK, hD⟩, hS.F ht⟩) hS.2.2 dX12_takers_58
          · refine lv_aload_n hx hb dX12_takers_34 rfl (lv_at hl 3 rfl) ?_
            refine xq_aload_n hx hb dX12_takers_35 rfl (lv_at hl 2 rfl) ?_
            refine jt_q (.ref z_3.toNat) (rv_ref (h_6).1) ?_
            refine lv_iload hx hb dX12_takers_36 (lv_at hl 0 rfl) ?_
            refine jcg_i (va_runV (As := [.ref z_3.toNat, .int (iI a4_25)]) (rest := []) ⟨hx, hb, hml, hown, hts⟩ (sX12_mayTake l dC dI _ L cid K N tW sK sV vc25 p0 z_3 a4_25 I_19 q0 h_6 (by omega)) (cwV 2 hts (jgoodV m_1101 m_1102 m_1103 m_873 m_1104) rfl rfl rfl (by decide +kernel) ⟨(Nat.le_of_ble_eq_true rfl), (Nat.le_of_ble_eq_true rfl)⟩) ⟨xP_blind, xrecv hK hP q0 rfl rfl, fun U hU hW => ⟨rfl, xP_of hU hW hP hK hD hX hS (fun _ h => h) hA⟩⟩ rfl rfl hl.1 rfl (lv_room (Nat.le_of_ble_eq_true rfl)) dX12_takers_38 ⟨(Nat.le_of_ble_eq_true rfl), (Nat.le_of_ble_eq_true rfl)⟩) hD hS hA (fun r_22 v_26 H locs w_23 hP hK hD hS => ?_)
            obtain ⟨z_24, rfl, I_28, f_27, h_25⟩ := w_23
            have hP : va_P (dC, dI) vwCl (xG L cid K N v_26) H := hP
            have hD : va_D A (xG L cid K N v_26) := hD
            have J51 : ∀ (a3_51 : Int) (H : Heap) (locs : List Loc) (ls : Array Slot), ((-2147483648) ≤ a3_51 ∧ a3_51 ≤ 2147483647) → va_P (dC, dI) vwCl (xG L cid K N v_26) H → va_D A (xG L cid K N v_26) → va_S A s.heap H locs → lv_has ls 5 [(4, .int (iI a4_25)), (3, .int (iI a3_51)), (2, rv z_3), (0, .ref p0.toNat), (1, .int (iI p1))] → W p l e ({ frames := 6, cells := 0, slots := 0, locals := 162 }) s m ([.ref p0.toNat, .int (iI p1)] : List Value).toArray below meth c H locs 0 0 Q (F0 m 51 ls []) := by
              intro a3_51 H locs ls h_29 hP hD hS hl
              refine lv_iinc (v := iI (a4_25 + 1)) (lv' := [(4, .int (iI (a4_25 + 1))), (3, .int (iI a3_51)), (2, rv z_3), (0, .ref p0.toNat), (1, .int (iI p1))]) hx hb dX12_takers_51 hl (k := 0) rfl (iI_add _ _) (by decide) rfl (fun ls hl => ?_)
              refine lv_goto (tgt := 25) hx hb dX12_takers_54 (by decide) ?_
              exact ih25 (a4_25 + 1) a3_51 v_26 H locs ls (by omega) (by omega) (by omega) (fr_tr f_27 rfl (fr_tr f_18 rfl fr_rf)) I_28 hP hD hS hl
            refine xr_if_eq (tgt := 51) hx hb dX12_takers_41 (by decide) (by omega) (fun h_30 => ?_) (fun h_30 => ?_)
            · exact J51 a3_25 H locs ls (by omega) hP hD hS hl
            · refine lv_iload_n hx hb dX12_takers_44 rfl (lv_at hl 1 rfl) ?_
              refine lv_iconst (v := iI 1) hx hb dX12_takers_45 rfl ?_
              refine lv_iload hx hb dX12_takers_46 (lv_at hl 0 rfl) ?_
              refine lv_ishl hx hb dX12_takers_48 ?_
              refine xr_any (fun z_31 h_32 => ?_)
              refine lv_ior hx hb dX12_takers_49 ?_
              refine xr_any (fun z_33 h_34 => ?_)
              refine lv_istore_n (i := 3) (lv' := [(3, .int (iI z_33)), (4, .int (iI a4_25)), (2, rv z_3), (0, .ref p0.toNat), (1, .int (iI p1))]) hx hb dX12_takers_50 rfl hl (by decide) (by simp [rv_cat]) (fun ls hl => ?_)
              exact J51 z_33 H locs ls (by omega) hP hD hS (lv_sub hl [1, 0, 2, 3, 4] rfl)
      exact L25 ((((v p0 11) - 0 : Int)).toNat + 1) 0 0 v H locs ls (by omega) (by omega) (by omega) fr_rf hI hP hD hS hl
    · refine lv_iconst (v := iI (-1)) hx hb dX12_takers_18 rfl ?_
      rw [← hQ]
      exact W.iret (v := iI (-1)) hx hb hr (fun t ht hW => ⟨⟨iI (-1), v, rfl, ⟨(-1), rfl, hI, fr_rf, by omega⟩, by rw [ht]; exact hP, va_K.moved hW.alike hK, hD⟩, hS.F ht⟩) hS.2.2 dX12_takers_19
set_option maxHeartbeats 2000000 in
set_option maxRecDepth 100000 in
theorem sX12_tell (l : Launch) (dC : Nat → ClassId) (dI : Nat → Nat → Nat) (sz : Nat) (L : List Nat) (cid : Nat → ClassId) (K : Int → Nat) (N : Int → Int) (tW : Nat) (sK sV : Nat → Nat) (v : Int → Int → Int) (p0 : Int) (p1 : Int) (p2 : Int) (p3 : Int) (hI : xI L K N v) (q0 : ok L K p0 12) (q1 : rg p1) (q2 : rg p2) (q3 : rg p3) : Met l yX12_tell (jk yX12_tell cX12_tell 5 (some .boolean)) ({ frames := 1, cells := 0, slots := 0, locals := 24 }) (va_Pc [.ref p0.toNat, .int (iI p1), .int (iI p2), .int (iI p3)] (xP (dC, dI) (xG L cid K N v) (xT cid) tW sK sV sz)) (va_Qi (fun (r : Int32) (u : (Int → Int → Int)) => ∃ z : Int, r = iI z ∧ (xI L K N u) ∧ (fr K [(5, 5), (42, (-1)), (43, (-1)), (44, (-1)), (45, (-1)), (46, (-1))] u v) ∧ (0 ≤ z ∧ z ≤ 1)) (fun u t => va_P (dC, dI) vwCl (xG L cid K N u) t.heap ∧ va_K (dC, dI) vwCl (xT cid) t ∧ va_D (va_A (xG L cid K N v) sz) (xG L cid K N u)) (va_A (xG L cid K N v) sz)) 0 0 (va_A (xG L cid K N v) sz) := by
  refine Met.ofW (cc := cX12_tell) (maxL := 5) (ret := (some .boolean)) (by decide) rfl ?_
  intro p e s m args below meth c s₁ B hml hv
  obtain ⟨rfl, ⟨hsz, hP, hK, hD0⟩, hX⟩ := hv
  have hx := B.exec
  have hb := B.bytes
  have hr := B.returns
  have hts := atoms_spec (ws := (jk yX12_tell cX12_tell 5 (some .boolean))) B.pre
  have hj : ∀ w ∈ jw, w.before ([.ref p0.toNat, .int (iI p1), .int (iI p2), .int (iI p3)] : List Value).toArray s = true := fun w h => hts w (jm h)
  have hown : s.vm.findClass RX12 = some m.cls := findClass_of_methodNamed B.named
  subst hsz
  have hD := hD0.self (sz := s.heap.size)
  generalize hAe : (va_A (xG L cid K N v) s.heap.size) = A at hD hX ⊢
  have hA : ∀ q : Nat, s.heap.size ≤ q → A q := fun q h => by rw [← hAe]; exact Or.inr h
  have hS : va_S A s.heap s.heap [] := va_S.rf
  have hXa := hX
  have hP : va_P (dC, dI) vwCl (xG L cid K N v) s.heap := hP
  have hl := lv_entry ([.ref p0.toNat, .int (iI p1), .int (iI p2), .int (iI p3)]) (n := 5) (Nat.le_of_ble_eq_true rfl)
  rw [lg_entry_eq]
  generalize (lg_sl ([.ref p0.toNat, .int (iI p1), .int (iI p2), .int (iI p3)]) ++ List.replicate (5 - (lg_sl ([.ref p0.toNat, .int (iI p1), .int (iI p2), .int (iI p3)])).length) Slot.unset).toArray = ls at hl ⊢
  have hl : lv_has ls 5 [(0, .ref p0.toNat), (1, .int (iI p1)), (2, .int (iI p2)), (3, .int (iI p3))] := hl
  generalize hQ : MQ below (va_Qi (fun (r : Int32) (u : (Int → Int → Int)) => ∃ z : Int, r = iI z ∧ (xI L K N u) ∧ (fr K [(5, 5), (42, (-1)), (43, (-1)), (44, (-1)), (45, (-1)), (46, (-1))] u v) ∧ (0 ≤ z ∧ z ≤ 1)) (fun u t => va_P (dC, dI) vwCl (xG L cid K N u) t.heap ∧ va_K (dC, dI) vwCl (xT cid) t ∧ va_D A (xG L cid K N u)) A) ([.ref p0.toNat, .int (iI p1), .int (iI p2), .int (iI p3)] : List Value).toArray s 0 0 A = Q
  suffices ST : ∀ (H : Heap) (locs : List Loc), va_P (dC, dI) vwCl (xG L cid K N v) H → va_S A s.heap H locs → W p l e ({ frames := 1, cells := 0, slots := 0, locals := 24 }) s m ([.ref p0.toNat, .int (iI p1), .int (iI p2), .int (iI p3)] : List Value).toArray below meth c H locs 0 0 Q (F0 m 0 ls []) from ST _ _ hP hS
  clear hP hS
  intro H locs hP hS
  refine lv_iload_n hx hb dX12_tell_0 rfl (lv_at hl 1 rfl) ?_
  have J30 : ∀ (s0_30 : Int) (H : Heap) (locs : List Loc) (ls : Array Slot), (0 ≤ s0_30 ∧ s0_30 ≤ 1) → va_P (dC, dI) vwCl (xG L cid K N v) H → va_D A (xG L cid K N v) → va_S A s.heap H locs → lv_has ls 5 [(0, .ref p0.toNat), (1, .int (iI p1)), (2, .int (iI p2)), (3, .int (iI p3))] → W p l e ({ frames := 1, cells := 0, slots := 0, locals := 24 }) s m ([.ref p0.toNat, .int (iI p1), .int (iI p2), .int (iI p3)] : List Value).toArray below meth c H locs 0 0 Q (F0 m 30 ls [.int (iI s0_30)]) := by
    intro s0_30 H locs ls h_1 hP hD hS hl
    refine lv_istore (i := 4) (lv' := [(4, .int (iI s0_30)), (0, .ref p0.toNat), (1, .int (iI p1)), (2, .int (iI p2)), (3, .int (iI p3))]) hx hb dX12_tell_30 hl (by decide) rfl (fun ls hl => ?_)
    refine lv_iload hx hb dX12_tell_32 (lv_at hl 0 rfl) ?_
    refine xr_if_eq (tgt := 58) hx hb dX12_tell_34 (by decide) (by omega) (fun h_2 => ?_) (fun h_2 => ?_)
    · refine lv_iconst (v := iI 0) hx hb dX12_tell_58 rfl ?_
      rw [← hQ]
      exact W.zret (v := iI 0) (ty := .boolean) hx hb hr (nb_bool (by omega) (by omega)) (fun t ht hW => ⟨⟨iI 0, v, rfl, ⟨0, rfl, hI, fr_rf, by omega⟩, by rw [ht]; exact hP, va_K.moved hW.alike hK, hD⟩, hS.F ht⟩) hS.2.2 dX12_tell_59
    · refine lv_aload_n hx hb dX12_tell_37 rfl (lv_at hl 1 rfl) ?_
      have h_3 : ok L K (v p0 14) 5 := xf_12_14 hI q0
      refine gx_RX12_66 (y := v p0 14) hx hb hj hown hK hP q0 ((xf_12_14 hI q0).1) rfl dX12_tell_38 ?_
      refine lv_iload_n hx hb dX12_tell_41 rfl (lv_at hl 2 rfl) ?_
      refine lv_iload_n hx hb dX12_tell_42 rfl (lv_at hl 3 rfl) ?_
      refine lv_iload_n hx hb dX12_tell_43 rfl (lv_at hl 4 rfl) ?_
      refine lv_aload_n hx hb dX12_tell_44 rfl (lv_at hl 1 rfl) ?_
      have h_4 : 0 ≤ v p0 0 ∧ v p0 0 ≤ 2000 := xf_12_0 hI q0
      refine gx_RX12_133 (y := v p0 0) hx hb hj hown hK hP q0 rfl dX12_tell_45 ?_
      refine jcg_i (va_runV (As := [.int (iI p1), .int (iI p2), .int (iI p3), .int (iI (v p0 0))]) (rest := []) ⟨hx, hb, hml, hown, hts⟩ (sX5_addFact l dC dI _ L cid K N tW sK sV v (v p0 14) p1 p2 p3 (v p0 0) hI h_3 (by omega) (by omega) (by omega) (by omega)) (cwV 4 hts (jgoodV m_1117 m_1118 m_1119 m_923 m_1120) rfl rfl rfl (by decide +kernel) ⟨(Nat.le_of_ble_eq_true rfl), (Nat.le_of_ble_eq_true rfl)⟩) ⟨xP_blind, xrecv hK hP h_3 rfl rfl, fun U hU hW => ⟨rfl, xP_of hU hW hP hK hD hX hS (fun _ h => h) hA⟩⟩ rfl rfl hl.1 rfl (lv_room (Nat.le_of_ble_eq_true rfl)) dX12_tell_48 ⟨(Nat.le_of_ble_eq_true rfl), (Nat.le_of_ble_eq_true rfl)⟩) hD hS hA (fun r_5 v_9 H locs w_6 hP hK hD hS => ?_)
      obtain ⟨z_7, rfl, I_11, f_10, h_8⟩ := w_6
      have hP : va_P (dC, dI) vwCl (xG L cid K N v_9) H := hP
      have hD : va_D A (xG L cid K N v_9) := hD
      refine xr_if_eq (tgt := 58) hx hb dX12_tell_51 (by decide) (by omega) (fun h_12 => ?_) (fun h_12 => ?_)
      · refine lv_iconst (v := iI 0) hx hb dX12_tell_58 rfl ?_
        rw [← hQ]
        exact W.zret (v := iI 0) (ty := .boolean) hx hb hr (nb_bool (by omega) (by omega)) (fun t ht hW => ⟨⟨iI 0, v_9, rfl, ⟨0, rfl, I_11, (fr_tr f_10 rfl fr_rf), by omega⟩, by rw [ht]; exact hP, va_K.moved hW.alike hK, hD⟩, hS.F ht⟩) hS.2.2 dX12_tell_59
      · refine lv_iconst (v := iI 1) hx hb dX12_tell_54 rfl ?_
        refine lv_goto (tgt := 59) hx hb dX12_tell_55 (by decide) ?_
        rw [← hQ]
        exact W.zret (v := iI 1) (ty := .boolean) hx hb hr (nb_bool (by omega) (by omega)) (fun t ht hW => ⟨⟨iI 1, v_9, rfl, ⟨1, rfl, I_11, (fr_tr f_10 rfl fr_rf), by omega⟩, by rw [ht]; exact hP, va_K.moved hW.alike hK, hD⟩, hS.F ht⟩) hS.2.2 dX12_tell_59
  have J29 : ∀ (H : Heap) (locs : List Loc) (ls : Array Slot), va_P (dC, dI) vwCl (xG L cid K N v) H → va_D A (xG L cid K N v) → va_S A s.heap H locs → lv_has ls 5 [(0, .ref p0.toNat), (1, .int (iI p1)), (2, .int (iI p2)), (3, .int (iI p3))] → W p l e ({ frames := 1, cells := 0, slots := 0, locals := 24 }) s m ([.ref p0.toNat, .int (iI p1), .int (iI p2), .int (iI p3)] : List Value).toArray below meth c H locs 0 0 Q (F0 m 29 ls []) := by
    intro H locs ls hP hD hS hl
    refine lv_iconst (v := iI 0) hx hb dX12_tell_29 rfl ?_
    exact J30 0 H locs ls (by omega) hP hD hS hl
  refine xr_if_lt (tgt := 29) hx hb dX12_tell_1 (by decide) (by omega) (fun h_13 => ?_) (fun h_13 => ?_)
  · exact J29 H locs ls hP hD hS hl
  · refine lv_iload_n hx hb dX12_tell_4 rfl (lv_at hl 1 rfl) ?_
    refine lv_bipush (v := iI 40) hx hb dX12_tell_5 rfl ?_
    refine xr_icmp_ge (tgt := 29) hx hb dX12_tell_7 (by decide) (by omega) (by omega) (fun h_14 => ?_) (fun h_14 => ?_)
    · exact J29 H locs ls hP hD hS hl
    · refine lv_iload_n hx hb dX12_tell_10 rfl (lv_at hl 2 rfl) ?_
      refine xr_if_lt (tgt := 29) hx hb dX12_tell_11 (by decide) (by omega) (fun h_15 => ?_) (fun h_15 => ?_)
      · exact J29 H locs ls hP hD hS hl
      · refine lv_iload_n hx hb dX12_tell_14 rfl (lv_at hl 2 rfl) ?_
        refine lv_sipush (v := iI 999) hx hb dX12_tell_15 rfl ?_
        refine xr_icmp_gt (tgt := 29) hx hb dX12_tell_18 (by decide) (by omega) (by omega) (fun h_16 => ?_) (fun h_16 => ?_)
        · exact J29 H locs ls hP hD hS hl
        · refine lv_iload_n hx hb dX12_tell_21 rfl (lv_at hl 3 rfl) ?_
          refine xr_if_lt (tgt := 29) hx hb dX12_tell_22 (by decide) (by omega) (fun h_17 => ?_) (fun h_17 => ?_)
          · exact J29 H locs ls hP hD hS hl
          · refine lv_iconst (v := iI 1) hx hb dX12_tell_25 rfl ?_
            refine lv_goto (tgt := 30) hx hb dX12_tell_26 (by decide) ?_
            exact J30 1 H locs ls (by omega) hP hD hS hl
set_option maxHeartbeats 2000000 in
set_option maxRecDepth 100000 in
theorem sX12_known (l : Launch) (dC : Nat → ClassId) (dI : Nat → Nat → Nat) (sz : Nat) (L : List Nat) (cid : Nat → ClassId) (K : Int → Nat) (N : Int → Int) (tW : Nat) (sK sV : Nat → Nat) (v : Int → Int → Int) (p0 : Int) (p1 : Int) (p2 : Int) (p3 : Int) (hI : xI L K N v) (q0 : ok L K p0 12) (q1 : rg p1) (q2 : rg p2) (q3 : rg p3) : Met l yX12_known (jk yX12_known cX12_known 4 (some .int)) ({ frames := 2, cells := 0, slots := 0, locals := 47 }) (va_Pc [.ref p0.toNat, .int (iI p1), .int (iI p2), .int (iI p3)] (xP (dC, dI) (xG L cid K N v) (xT cid) tW sK sV sz)) (va_Qi (fun (r : Int32) (_ : Unit) => ∃ z : Int, r = iI z ∧ (rg z)) (fun _ _ => True) (va_A [] sz)) 0 0 (va_A [] sz) := by
  refine Met.ofW (cc := cX12_known) (maxL := 4) (ret := (some .int)) (by decide) rfl ?_
  intro p e s m args below meth c s₁ B hml hv
  obtain ⟨rfl, ⟨hsz, hP, hK, hD0⟩, hX⟩ := hv
  have hx := B.exec
  have hb := B.bytes
  have hr := B.returns
  have hts := atoms_spec (ws := (jk yX12_known cX12_known 4 (some .int))) B.pre
  have hj : ∀ w ∈ jw, w.before ([.ref p0.toNat, .int (iI p1), .int (iI p2), .int (iI p3)] : List Value).toArray s = true := fun w h => hts w (jm h)
  have hown : s.vm.findClass RX12 = some m.cls := findClass_of_methodNamed B.named
  subst hsz
  have hDw := hD0.self (sz := s.heap.size)
  have hAA : ∀ q : Nat, s.heap.size ≤ q → va_A (xG L cid K N v) s.heap.size q := fun q h => Or.inr h
  have hAw : ∀ q, va_A [] s.heap.size q → va_A (xG L cid K N v) s.heap.size q := ja_nil va_S.rf hAA
  generalize hAe : (va_A [] s.heap.size) = A at hAw ⊢
  have hA : ∀ q : Nat, s.heap.size ≤ q → A q := fun q h => by rw [← hAe]; exact Or.inr h
  have hS : va_S A s.heap s.heap [] := va_S.rf
  have hXa := hX.nar hAw
  have hP : va_P (dC, dI) vwCl (xG L cid K N v) s.heap := hP
  have hl := lv_entry ([.ref p0.toNat, .int (iI p1), .int (iI p2), .int (iI p3)]) (n := 4) (Nat.le_of_ble_eq_true rfl)
  rw [lg_entry_eq]
  generalize (lg_sl ([.ref p0.toNat, .int (iI p1), .int (iI p2), .int (iI p3)]) ++ List.replicate (4 - (lg_sl ([.ref p0.toNat, .int (iI p1), .int (iI p2), .int (iI p3)])).length) Slot.unset).toArray = ls at hl ⊢
  have hl : lv_has ls 4 [(0, .ref p0.toNat), (1, .int (iI p1)), (2, .int (iI p2)), (3, .int (iI p3))] := hl
  generalize hQ : MQ below (va_Qi (fun (r : Int32) (_ : Unit) => ∃ z : Int, r = iI z ∧ (rg z)) (fun _ _ => True) A) ([.ref p0.toNat, .int (iI p1), .int (iI p2), .int (iI p3)] : List Value).toArray s 0 0 A = Q
  suffices ST : ∀ (H : Heap) (locs : List Loc), va_P (dC, dI) vwCl (xG L cid K N v) H → va_S A s.heap H locs → W p l e ({ frames := 2, cells := 0, slots := 0, locals := 47 }) s m ([.ref p0.toNat, .int (iI p1), .int (iI p2), .int (iI p3)] : List Value).toArray below meth c H locs 0 0 Q (F0 m 0 ls []) from ST _ _ hP hS
  clear hP hS
  intro H locs hP hS
  refine lv_iload_n hx hb dX12_known_0 rfl (lv_at hl 2 rfl) ?_
  refine xr_if_lt (tgt := 11) hx hb dX12_known_1 (by decide) (by omega) (fun h_1 => ?_) (fun h_1 => ?_)
  · refine lv_iconst (v := iI (-1)) hx hb dX12_known_11 rfl ?_
    rw [← hQ]
    exact W.iret (v := iI (-1)) hx hb hr (fun t ht hW => ⟨⟨iI (-1), (), rfl, ⟨(-1), rfl, by omega⟩, trivial⟩, hS.F ht⟩) hS.2.2 dX12_known_12
  · refine lv_iload_n hx hb dX12_known_4 rfl (lv_at hl 2 rfl) ?_
    refine lv_sipush (v := iI 2000) hx hb dX12_known_5 rfl ?_
    refine xr_icmp_le (tgt := 13) hx hb dX12_known_8 (by decide) (by omega) (by omega) (fun h_2 => ?_) (fun h_2 => ?_)
    · refine lv_iload_n hx hb dX12_known_13 rfl (lv_at hl 3 rfl) ?_
      refine xr_if_ne (tgt := 27) hx hb dX12_known_14 (by decide) (by omega) (fun h_3 => ?_) (fun h_3 => ?_)
      · refine lv_iload_n hx hb dX12_known_27 rfl (lv_at hl 3 rfl) ?_
        refine lv_iconst (v := iI 1) hx hb dX12_known_28 rfl ?_
        refine xr_icmp_ne (tgt := 44) hx hb dX12_known_29 (by decide) (by omega) (by omega) (fun h_4 => ?_) (fun h_4 => ?_)
        · refine lv_iconst (v := iI (-1)) hx hb dX12_known_44 rfl ?_
          rw [← hQ]
          exact W.iret (v := iI (-1)) hx hb hr (fun t ht hW => ⟨⟨iI (-1), (), rfl, ⟨(-1), rfl, by omega⟩, trivial⟩, hS.F ht⟩) hS.2.2 dX12_known_45
        · refine lv_aload_n hx hb dX12_known_32 rfl (lv_at hl 0 rfl) ?_
          have h_5 : ok L K (v p0 14) 5 := xf_12_14 hI q0
          refine gx_RX12_66 (y := v p0 14) hx hb hj hown hK hP q0 ((xf_12_14 hI q0).1) rfl dX12_known_33 ?_
          refine lv_iload_n hx hb dX12_known_36 rfl (lv_at hl 1 rfl) ?_
          refine lv_iload_n hx hb dX12_known_37 rfl (lv_at hl 2 rfl) ?_
          refine jc_i (va_runV (As := [.int (iI p1), .int (iI p2)]) (rest := []) ⟨hx, hb, hml, hown, hts⟩ (sX5_sourceOn l dC dI _ L cid K N tW sK sV v (v p0 14) p1 p2 hI h_5 (by omega) (by omega)) (cwV 2 hts (jgoodV m_1121 m_1122 m_1123 m_923 m_1124) rfl rfl rfl (by decide +kernel) ⟨(Nat.le_of_ble_eq_true rfl), (Nat.le_of_ble_eq_true rfl)⟩) ⟨xP_blind, xrecv hK hP h_5 rfl rfl, fun U hU hW => ⟨rfl, xP_of hU hW hP hK hDw hX hS hAw hAA⟩⟩ rfl rfl hl.1 rfl (lv_room (Nat.le_of_ble_eq_true rfl)) dX12_known_38 ⟨(Nat.le_of_ble_eq_true rfl), (Nat.le_of_ble_eq_true rfl)⟩) hP hS hA (fun r_6 H locs w_7 hP hS => ?_)
          obtain ⟨z_8, rfl, h_9⟩ := w_7
          refine lv_goto (tgt := 45) hx hb dX12_known_41 (by decide) ?_
          rw [← hQ]
          exact W.iret (v := iI z_8) hx hb hr (fun t ht hW => ⟨⟨iI z_8, (), rfl, ⟨z_8, rfl, by omega⟩, trivial⟩, hS.F ht⟩) hS.2.2 dX12_known_45
      · refine lv_aload_n hx hb dX12_known_17 rfl (lv_at hl 0 rfl) ?_
        have h_10 : ok L K (v p0 14) 5 := xf_12_14 hI q0
        refine gx_RX12_66 (y := v p0 14) hx hb hj hown hK hP q0 ((xf_12_14 hI q0).1) rfl dX12_known_18 ?_
        refine lv_iload_n hx hb dX12_known_21 rfl (lv_at hl 1 rfl) ?_
        refine lv_iload_n hx hb dX12_known_22 rfl (lv_at hl 2 rfl) ?_
        refine jc_i (va_runV (As := [.int (iI p1), .int (iI p2)]) (rest := []) ⟨hx, hb, hml, hown, hts⟩ (sX5_valueOn l dC dI _ L cid K N tW sK sV v (v p0 14) p1 p2 hI h_10 (by omega) (by omega)) (cwV 2 hts (jgoodV m_1105 m_1106 m_1107 m_923 m_1108) rfl rfl rfl (by decide +kernel) ⟨(Nat.le_of_ble_eq_true rfl), (Nat.le_of_ble_eq_true rfl)⟩) ⟨xP_blind, xrecv hK hP h_10 rfl rfl, fun U hU hW => ⟨rfl, xP_of hU hW hP hK hDw hX hS hAw hAA⟩⟩ rfl rfl hl.1 rfl (lv_room (Nat.le_of_ble_eq_true rfl)) dX12_known_23 ⟨(Nat.le_of_ble_eq_true rfl), (Nat.le_of_ble_eq_true rfl)⟩) hP hS hA (fun r_11 H locs w_12 hP hS => ?_)
        obtain ⟨z_13, rfl, h_14⟩ := w_12
        rw [← hQ]
        exact W.iret (v := iI z_13) hx hb hr (fun t ht hW => ⟨⟨iI z_13, (), rfl, ⟨z_13, rfl, by omega⟩, trivial⟩, hS.F ht⟩) hS.2.2 dX12_known_26
    · refine lv_iconst (v := iI (-1)) hx hb dX12_known_11 rfl ?_
      rw [← hQ]
      exact W.iret (v := iI (-1)) hx hb hr (fun t ht hW => ⟨⟨iI (-1), (), rfl, ⟨(-1), rfl, by omega⟩, trivial⟩, hS.F ht⟩) hS.2.2 dX12_known_12
set_option maxHeartbeats 2000000 in
set_option maxRecDepth 100000 in
theorem sX12_isStale (l : Launch) (dC : Nat → ClassId) (dI : Nat → Nat → Nat) (sz : Nat) (L : List Nat) (cid : Nat → ClassId) (K : Int → Nat) (N : Int → Int) (tW : Nat) (sK sV : Nat → Nat) (v : Int → Int → Int) (p0 : Int) (p1 : Int) (p2 : Int) (hI : xI L K N v) (q0 : ok L K p0 12) (q1 : ok L K p1 4) (q2 : rg p2) : Met l yX12_isStale (jk yX12_isStale cX12_isStale 4 (some .boolean)) ({ frames := 2, cells := 0, slots := 0, locals := 47 }) (va_Pc [.ref p0.toNat, .ref p1.toNat, .int (iI p2)] (xP (dC, dI) (xG L cid K N v) (xT cid) tW sK sV sz)) (va_Qi (fun (r : Int32) (_ : Unit) => ∃ z : Int, r = iI z ∧ (0 ≤ z ∧ z ≤ 1)) (fun _ _ => True) (va_A [] sz)) 0 0 (va_A [] sz) := by
  refine Met.ofW (cc := cX12_isStale) (maxL := 4) (ret := (some .boolean)) (by decide) rfl ?_
  intro p e s m args below meth c s₁ B hml hv
  obtain ⟨rfl, ⟨hsz, hP, hK, hD0⟩, hX⟩ := hv
  have hx := B.exec
  have hb := B.bytes
  have hr := B.returns
  have hts := atoms_spec (ws := (jk yX12_isStale cX12_isStale 4 (some .boolean))) B.pre
  have hj : ∀ w ∈ jw, w.before ([.ref p0.toNat, .ref p1.toNat, .int (iI p2)] : List Value).toArray s = true := fun w h => hts w (jm h)
  have hown : s.vm.findClass RX12 = some m.cls := findClass_of_methodNamed B.named
  subst hsz
  have hDw := hD0.self (sz := s.heap.size)
  have hAA : ∀ q : Nat, s.heap.size ≤ q → va_A (xG L cid K N v) s.heap.size q := fun q h => Or.inr h
  have hAw : ∀ q, va_A [] s.heap.size q → va_A (xG L cid K N v) s.heap.size q := ja_nil va_S.rf hAA
  generalize hAe : (va_A [] s.heap.size) = A at hAw ⊢
  have hA : ∀ q : Nat, s.heap.size ≤ q → A q := fun q h => by rw [← hAe]; exact Or.inr h
  have hS : va_S A s.heap s.heap [] := va_S.rf
  have hXa := hX.nar hAw
  have hP : va_P (dC, dI) vwCl (xG L cid K N v) s.heap := hP
  have hl := lv_entry ([.ref p0.toNat, .ref p1.toNat, .int (iI p2)]) (n := 4) (Nat.le_of_ble_eq_true rfl)
  rw [lg_entry_eq]
  generalize (lg_sl ([.ref p0.toNat, .ref p1.toNat, .int (iI p2)]) ++ List.replicate (4 - (lg_sl ([.ref p0.toNat, .ref p1.toNat, .int (iI p2)])).length) Slot.unset).toArray = ls at hl ⊢
  have hl : lv_has ls 4 [(0, .ref p0.toNat), (1, .ref p1.toNat), (2, .int (iI p2))] := hl
  generalize hQ : MQ below (va_Qi (fun (r : Int32) (_ : Unit) => ∃ z : Int, r = iI z ∧ (0 ≤ z ∧ z ≤ 1)) (fun _ _ => True) A) ([.ref p0.toNat, .ref p1.toNat, .int (iI p2)] : List Value).toArray s 0 0 A = Q
  suffices ST : ∀ (H : Heap) (locs : List Loc), va_P (dC, dI) vwCl (xG L cid K N v) H → va_S A s.heap H locs → W p l e ({ frames := 2, cells := 0, slots := 0, locals := 47 }) s m ([.ref p0.toNat, .ref p1.toNat, .int (iI p2)] : List Value).toArray below meth c H locs 0 0 Q (F0 m 0 ls []) from ST _ _ hP hS
  clear hP hS
  intro H locs hP hS
  refine lv_aload_n hx hb dX12_isStale_0 rfl (lv_at hl 0 rfl) ?_
  refine lv_aload_n hx hb dX12_isStale_1 rfl (lv_at hl 1 rfl) ?_
  have h_1 : (-2147483648) ≤ v p1 5 ∧ v p1 5 ≤ 2147483647 := xf_4_5 hI q1
  refine gx_RX12_396 (y := v p1 5) hx hb hj hown hK hP q1 rfl dX12_isStale_2 ?_
  refine jc_q (va_runV (As := [.int (iI (v p1 5))]) (rest := []) ⟨hx, hb, hml, hown, hts⟩ (sX12_lineAt l dC dI _ L cid K N tW sK sV v p0 (v p1 5) hI q0 (by omega)) (cwV 1 hts (jgoodV m_1109 m_1110 m_1111 m_873 m_1112) rfl rfl rfl (by decide +kernel) ⟨(Nat.le_of_ble_eq_true rfl), (Nat.le_of_ble_eq_true rfl)⟩) ⟨xP_blind, xrecv hK hP q0 rfl rfl, fun U hU hW => ⟨rfl, xP_of hU hW hP hK hDw hX hS hAw hAA⟩⟩ rfl rfl hl.1 rfl (lv_room (Nat.le_of_ble_eq_true rfl)) dX12_isStale_5 ⟨(Nat.le_of_ble_eq_true rfl), (Nat.le_of_ble_eq_true rfl)⟩) hP hS hA (fun r_2 H locs w_3 hP hS => ?_)
  obtain ⟨z_4, rfl, h_5⟩ := w_3
  refine jt_q (rv z_4) rfl ?_
  refine xq_astore_n (i := 3) (lv' := [(3, rv z_4), (0, .ref p0.toNat), (1, .ref p1.toNat), (2, .int (iI p2))]) hx hb dX12_isStale_8 rfl hl (by decide) rfl (fun ls hl => ?_)
  refine xq_aload_n hx hb dX12_isStale_9 rfl (lv_at hl 0 rfl) ?_
  refine xq_ifnonnull (tgt := 15) hx hb dX12_isStale_10 (by decide) (fun h_6 => ?_) (fun h_6 => ?_)
  · have h_7 : ok L K z_4 4 := h_5.resolve_left (by omega)
    refine lv_aload_n hx hb dX12_isStale_15 rfl (lv_at hl 1 rfl) ?_
    have h_8 : ok L K (v p0 14) 5 := xf_12_14 hI q0
    refine gx_RX12_66 (y := v p0 14) hx hb hj hown hK hP q0 ((xf_12_14 hI q0).1) rfl dX12_isStale_16 ?_
    refine xq_aload_n hx hb dX12_isStale_19 rfl (lv_at hl 0 rfl) ?_
    refine jt_q (.ref z_4.toNat) (rv_ref (h_7).1) ?_
    have h_9 : (-2147483648) ≤ v z_4 3 ∧ v z_4 3 ≤ 2147483647 := xf_4_3 hI h_7
    refine gx_RX12_385 (y := v z_4 3) hx hb hj hown hK hP h_7 rfl dX12_isStale_20 ?_
    refine lv_iload_n hx hb dX12_isStale_23 rfl (lv_at hl 3 rfl) ?_
    refine jc_i (va_runV (As := [.int (iI (v z_4 3)), .int (iI p2)]) (rest := []) ⟨hx, hb, hml, hown, hts⟩ (sX5_valueOn l dC dI _ L cid K N tW sK sV v (v p0 14) (v z_4 3) p2 hI h_8 (by omega) (by omega)) (cwV 2 hts (jgoodV m_1105 m_1106 m_1107 m_923 m_1108) rfl rfl rfl (by decide +kernel) ⟨(Nat.le_of_ble_eq_true rfl), (Nat.le_of_ble_eq_true rfl)⟩) ⟨xP_blind, xrecv hK hP h_8 rfl rfl, fun U hU hW => ⟨rfl, xP_of hU hW hP hK hDw hX hS hAw hAA⟩⟩ rfl rfl hl.1 rfl (lv_room (Nat.le_of_ble_eq_true rfl)) dX12_isStale_24 ⟨(Nat.le_of_ble_eq_true rfl), (Nat.le_of_ble_eq_true rfl)⟩) hP hS hA (fun r_10 H locs w_11 hP hS => ?_)
    obtain ⟨z_12, rfl, h_13⟩ := w_11
    refine lv_aload_n hx hb dX12_isStale_27 rfl (lv_at hl 1 rfl) ?_
    refine gx_RX12_66 (y := v p0 14) hx hb hj hown hK hP q0 ((xf_12_14 hI q0).1) rfl dX12_isStale_28 ?_
    refine lv_aload_n hx hb dX12_isStale_31 rfl (lv_at hl 2 rfl) ?_
    refine gx_RX12_396 (y := v p1 5) hx hb hj hown hK hP q1 rfl dX12_isStale_32 ?_
    refine xq_aload_n hx hb dX12_isStale_35 rfl (lv_at hl 0 rfl) ?_
    refine jt_q (.ref z_4.toNat) (rv_ref (h_7).1) ?_
    have h_14 : (-2147483648) ≤ v z_4 6 ∧ v z_4 6 ≤ 2147483647 := xf_4_6 hI h_7
    refine gx_RX12_399 (y := v z_4 6) hx hb hj hown hK hP h_7 rfl dX12_isStale_36 ?_
    refine lv_iload_n hx hb dX12_isStale_39 rfl (lv_at hl 3 rfl) ?_
    refine jc_i (va_runV (As := [.int (iI (v p1 5)), .int (iI (v z_4 6)), .int (iI p2)]) (rest := [.int (iI z_12)]) ⟨hx, hb, hml, hown, hts⟩ (sX5_keptOn l dC dI _ L cid K N tW sK sV v (v p0 14) (v p1 5) (v z_4 6) p2 hI h_8 (by omega) (by omega) (by omega)) (cwV 3 hts (jgoodV m_1125 m_1126 m_1127 m_923 m_1128) rfl rfl rfl (by decide +kernel) ⟨(Nat.le_of_ble_eq_true rfl), (Nat.le_of_ble_eq_true rfl)⟩) ⟨xP_blind, xrecv hK hP h_8 rfl rfl, fun U hU hW => ⟨rfl, xP_of hU hW hP hK hDw hX hS hAw hAA⟩⟩ rfl rfl hl.1 rfl (lv_room (Nat.le_of_ble_eq_true rfl)) dX12_isStale_40 ⟨(Nat.le_of_ble_eq_true rfl), (Nat.le_of_ble_eq_true rfl)⟩) hP hS hA (fun r_15 H locs w_16 hP hS => ?_)
    obtain ⟨z_17, rfl, h_18⟩ := w_16
    refine xr_icmp_eq (tgt := 50) hx hb dX12_isStale_43 (by decide) (by omega) (by omega) (fun h_19 => ?_) (fun h_19 => ?_)
    · refine lv_iconst (v := iI 0) hx hb dX12_isStale_50 rfl ?_
      rw [← hQ]
      exact W.zret (v := iI 0) (ty := .boolean) hx hb hr (nb_bool (by omega) (by omega)) (fun t ht hW => ⟨⟨iI 0, (), rfl, ⟨0, rfl, by omega⟩, trivial⟩, hS.F ht⟩) hS.2.2 dX12_isStale_51
    · refine lv_iconst (v := iI 1) hx hb dX12_isStale_46 rfl ?_
      refine lv_goto (tgt := 51) hx hb dX12_isStale_47 (by decide) ?_
      rw [← hQ]
      exact W.zret (v := iI 1) (ty := .boolean) hx hb hr (nb_bool (by omega) (by omega)) (fun t ht hW => ⟨⟨iI 1, (), rfl, ⟨1, rfl, by omega⟩, trivial⟩, hS.F ht⟩) hS.2.2 dX12_isStale_51
  · refine lv_iconst (v := iI 0) hx hb dX12_isStale_13 rfl ?_
    rw [← hQ]
    exact W.zret (v := iI 0) (ty := .boolean) hx hb hr (nb_bool (by omega) (by omega)) (fun t ht hW => ⟨⟨iI 0, (), rfl, ⟨0, rfl, by omega⟩, trivial⟩, hS.F ht⟩) hS.2.2 dX12_isStale_14
