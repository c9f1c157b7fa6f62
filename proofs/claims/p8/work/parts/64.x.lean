set_option maxHeartbeats 2000000 in
set_option maxRecDepth 100000 in
theorem sX1_addArticle (l : Launch) (dC : Nat → ClassId) (dI : Nat → Nat → Nat) (sz : Nat) (L : List Nat) (cid : Nat → ClassId) (K : Int → Nat) (N : Int → Int) (tW : Nat) (sK sV : Nat → Nat) (v : Int → Int → Int) (p0 : Int) (p1 : Int) (p2 : Int) (hI : xI L K N v) (q0 : ok L K p0 1) (q1 : rg p1) (q2 : rg p2) : Met l yX1_addArticle (jk yX1_addArticle cX1_addArticle 3 none) ({ frames := 0, cells := 0, slots := 0, locals := 0 }) (va_Pc [.ref p0.toNat, .int (iI p1), .int (iI p2)] (xP (dC, dI) (xG L cid K N v) (xT cid) tW sK sV sz)) (va_Qv (fun (u : (Int → Int → Int)) => (xI L K N u) ∧ (fr K [(1, 3), (53, (-1)), (54, (-1)), (55, (-1))] u v)) (fun u t => va_P (dC, dI) vwCl (xG L cid K N u) t.heap ∧ va_K (dC, dI) vwCl (xT cid) t ∧ va_D (va_A (xG L cid K N v) sz) (xG L cid K N u)) (va_A (xG L cid K N v) sz)) 0 0 (va_A (xG L cid K N v) sz) := by
  refine Met.ofW (cc := cX1_addArticle) (maxL := 3) (ret := none) (by decide) rfl ?_
  intro p e s m args below meth c s₁ B hml hv
  obtain ⟨rfl, ⟨hsz, hP, hK, hD0⟩, hX⟩ := hv
  have hx := B.exec
  have hb := B.bytes
  have hr := B.returns
  have hts := atoms_spec (ws := (jk yX1_addArticle cX1_addArticle 3 none)) B.pre
  have hj : ∀ w ∈ jw, w.before ([.ref p0.toNat, .int (iI p1), .int (iI p2)] : List Value).toArray s = true := fun w h => hts w (jm h)
  have hown : s.vm.findClass RX1 = some m.cls := findClass_of_methodNamed B.named
  subst hsz
  have hD := hD0.self (sz := s.heap.size)
  generalize hAe : (va_A (xG L cid K N v) s.heap.size) = A at hD hX ⊢
  have hA : ∀ q : Nat, s.heap.size ≤ q → A q := fun q h => by rw [← hAe]; exact Or.inr h
  have hS : va_S A s.heap s.heap [] := va_S.rf
  have hXa := hX
  have hP : va_P (dC, dI) vwCl (xG L cid K N v) s.heap := hP
  have hl := lv_entry ([.ref p0.toNat, .int (iI p1), .int (iI p2)]) (n := 3) (Nat.le_of_ble_eq_true rfl)
  rw [lg_entry_eq]
  generalize (lg_sl ([.ref p0.toNat, .int (iI p1), .int (iI p2)]) ++ List.replicate (3 - (lg_sl ([.ref p0.toNat, .int (iI p1), .int (iI p2)])).length) Slot.unset).toArray = ls at hl ⊢
  have hl : lv_has ls 3 [(0, .ref p0.toNat), (1, .int (iI p1)), (2, .int (iI p2))] := hl
  generalize hQ : MQ below (va_Qv (fun (u : (Int → Int → Int)) => (xI L K N u) ∧ (fr K [(1, 3), (53, (-1)), (54, (-1)), (55, (-1))] u v)) (fun u t => va_P (dC, dI) vwCl (xG L cid K N u) t.heap ∧ va_K (dC, dI) vwCl (xT cid) t ∧ va_D A (xG L cid K N u)) A) ([.ref p0.toNat, .int (iI p1), .int (iI p2)] : List Value).toArray s 0 0 A = Q
  suffices ST : ∀ (H : Heap) (locs : List Loc), va_P (dC, dI) vwCl (xG L cid K N v) H → va_S A s.heap H locs → W p l e ({ frames := 0, cells := 0, slots := 0, locals := 0 }) s m ([.ref p0.toNat, .int (iI p1), .int (iI p2)] : List Value).toArray below meth c H locs 0 0 Q (F0 m 0 ls []) from ST _ _ hP hS
  clear hP hS
  intro H locs hP hS
  refine lv_aload_n hx hb dX1_addArticle_0 rfl (lv_at hl 0 rfl) ?_
  have h_1 : (-2147483648) ≤ v p0 3 ∧ v p0 3 ≤ 2147483647 := xf_1_3 hI q0
  refine gx_RX1_37 (y := v p0 3) hx hb hj hown hK hP q0 rfl dX1_addArticle_1 ?_
  refine xr_if_lt (tgt := 56) hx hb dX1_addArticle_4 (by decide) (by omega) (fun h_2 => ?_) (fun h_2 => ?_)
  · rw [← hQ]
    exact W.vret hx hb hr (fun t ht hW => ⟨⟨v, rfl, ⟨hI, fr_rf⟩, by rw [ht]; exact hP, va_K.moved hW.alike hK, hD⟩, hS.F ht⟩) hS.2.2 dX1_addArticle_56
  · refine lv_aload_n hx hb dX1_addArticle_7 rfl (lv_at hl 0 rfl) ?_
    refine gx_RX1_37 (y := v p0 3) hx hb hj hown hK hP q0 rfl dX1_addArticle_8 ?_
    refine lv_bipush (v := iI 7) hx hb dX1_addArticle_11 rfl ?_
    refine xr_icmp_ge (tgt := 56) hx hb dX1_addArticle_13 (by decide) (by omega) (by omega) (fun h_3 => ?_) (fun h_3 => ?_)
    · rw [← hQ]
      exact W.vret hx hb hr (fun t ht hW => ⟨⟨v, rfl, ⟨hI, fr_rf⟩, by rw [ht]; exact hP, va_K.moved hW.alike hK, hD⟩, hS.F ht⟩) hS.2.2 dX1_addArticle_56
    · refine lv_aload_n hx hb dX1_addArticle_16 rfl (lv_at hl 0 rfl) ?_
      have h_4 : ok L K (v p0 0) 53 := xf_1_0 hI q0
      have h_5 : N (v p0 0) = 7 := xn_53 hI h_4
      refine gx_RX1_11 (y := v p0 0) hx hb hj hown hK hP q0 ((xf_1_0 hI q0).1) rfl dX1_addArticle_17 ?_
      refine lv_aload_n hx hb dX1_addArticle_20 rfl (lv_at hl 0 rfl) ?_
      refine gx_RX1_37 (y := v p0 3) hx hb hj hown hK hP q0 rfl dX1_addArticle_21 ?_
      refine lv_iload_n hx hb dX1_addArticle_24 rfl (lv_at hl 1 rfl) ?_
      refine sx_53 (y := p1) hx hb hK hP hD hS hI h_4 (by omega) (by omega) (by omega) ⟨by omega, by omega⟩ dX1_addArticle_25 (fun v_6 H locs f_7 e_8 o_9 I_10 hP hD hS => ?_)
      refine lv_aload_n hx hb dX1_addArticle_26 rfl (lv_at hl 0 rfl) ?_
      have h_11 : ok L K (v p0 1) 54 := xf_1_1 hI q0
      have h_12 : N (v p0 1) = 7 := xn_54 hI h_11
      refine gx_RX1_15 (y := v p0 1) hx hb hj hown hK hP q0 ((xf_1_1 I_10 q0).1) (fr_use q0 f_7 rfl) dX1_addArticle_27 ?_
      refine lv_aload_n hx hb dX1_addArticle_30 rfl (lv_at hl 0 rfl) ?_
      refine gx_RX1_37 (y := v p0 3) hx hb hj hown hK hP q0 (fr_use q0 f_7 rfl) dX1_addArticle_31 ?_
      refine lv_iload_n hx hb dX1_addArticle_34 rfl (lv_at hl 2 rfl) ?_
      refine sx_54 (y := p2) hx hb hK hP hD hS I_10 h_11 (by omega) (by omega) (by omega) ⟨by omega, by omega⟩ dX1_addArticle_35 (fun v_13 H locs f_14 e_15 o_16 I_17 hP hD hS => ?_)
      refine lv_aload_n hx hb dX1_addArticle_36 rfl (lv_at hl 0 rfl) ?_
      have h_18 : ok L K (v p0 2) 55 := xf_1_2 hI q0
      have h_19 : N (v p0 2) = 7 := xn_55 hI h_18
      refine gx_RX1_18 (y := v p0 2) hx hb hj hown hK hP q0 ((xf_1_2 I_17 q0).1) (((fr_use q0 f_14 rfl)).trans (fr_use q0 f_7 rfl)) dX1_addArticle_37 ?_
      refine lv_aload_n hx hb dX1_addArticle_40 rfl (lv_at hl 0 rfl) ?_
      refine gx_RX1_37 (y := v p0 3) hx hb hj hown hK hP q0 (((fr_use q0 f_14 rfl)).trans (fr_use q0 f_7 rfl)) dX1_addArticle_41 ?_
      refine lv_iconst (v := iI (-1)) hx hb dX1_addArticle_44 rfl ?_
      refine sx_55 (y := (-1)) hx hb hK hP hD hS I_17 h_18 (by omega) (by omega) (by omega) ⟨by omega, by omega⟩ dX1_addArticle_45 (fun v_20 H locs f_21 e_22 o_23 I_24 hP hD hS => ?_)
      refine lv_aload_n hx hb dX1_addArticle_46 rfl (lv_at hl 0 rfl) ?_
      refine lv_dup hx hb dX1_addArticle_47 rfl ?_
      refine gx_RX1_37 (y := v p0 3) hx hb hj hown hK hP q0 (((fr_use q0 f_21 rfl)).trans (((fr_use q0 f_14 rfl)).trans (fr_use q0 f_7 rfl))) dX1_addArticle_48 ?_
      refine lv_iconst (v := iI 1) hx hb dX1_addArticle_51 rfl ?_
      refine xr_add hx hb dX1_addArticle_52 ?_
      refine xr_kept (fun z_25 h_26 h_27 => ?_)
      refine px_RX1_37 (y := z_25) hx hb hj hown hK hP hD hS I_24 q0 ⟨by omega, by omega⟩ dX1_addArticle_53 (fun v_28 H locs f_29 e_30 o_31 I_32 hP hD hS => ?_)
      rw [← hQ]
      exact W.vret hx hb hr (fun t ht hW => ⟨⟨v_28, rfl, ⟨I_32, (fr_tr f_29 rfl (fr_tr f_21 rfl (fr_tr f_14 rfl (fr_tr f_7 rfl fr_rf))))⟩, by rw [ht]; exact hP, va_K.moved hW.alike hK, hD⟩, hS.F ht⟩) hS.2.2 dX1_addArticle_56
set_option maxHeartbeats 2000000 in
set_option maxRecDepth 100000 in
theorem sX1_handNumber (l : Launch) (dC : Nat → ClassId) (dI : Nat → Nat → Nat) (sz : Nat) (L : List Nat) (cid : Nat → ClassId) (K : Int → Nat) (N : Int → Int) (tW : Nat) (sK sV : Nat → Nat) (v : Int → Int → Int) (p0 : Int) (p1 : Int) (hI : xI L K N v) (q0 : ok L K p0 1) (q1 : rg p1) : Met l yX1_handNumber (jk yX1_handNumber cX1_handNumber 2 (some .int)) ({ frames := 0, cells := 0, slots := 0, locals := 0 }) (va_Pc [.ref p0.toNat, .int (iI p1)] (xP (dC, dI) (xG L cid K N v) (xT cid) tW sK sV sz)) (va_Qi (fun (r : Int32) (_ : Unit) => ∃ z : Int, r = iI z ∧ (rg z)) (fun _ _ => True) (va_A [] sz)) 0 0 (va_A [] sz) := by
  refine Met.ofW (cc := cX1_handNumber) (maxL := 2) (ret := (some .int)) (by decide) rfl ?_
  intro p e s m args below meth c s₁ B hml hv
  obtain ⟨rfl, ⟨hsz, hP, hK, hD0⟩, hX⟩ := hv
  have hx := B.exec
  have hb := B.bytes
  have hr := B.returns
  have hts := atoms_spec (ws := (jk yX1_handNumber cX1_handNumber 2 (some .int))) B.pre
  have hj : ∀ w ∈ jw, w.before ([.ref p0.toNat, .int (iI p1)] : List Value).toArray s = true := fun w h => hts w (jm h)
  have hown : s.vm.findClass RX1 = some m.cls := findClass_of_methodNamed B.named
  subst hsz
  have hDw := hD0.self (sz := s.heap.size)
  have hAA : ∀ q : Nat, s.heap.size ≤ q → va_A (xG L cid K N v) s.heap.size q := fun q h => Or.inr h
  have hAw : ∀ q, va_A [] s.heap.size q → va_A (xG L cid K N v) s.heap.size q := ja_nil va_S.rf hAA
  generalize hAe : (va_A [] s.heap.size) = A at hAw ⊢
  have hA : ∀ q : Nat, s.heap.size ≤ q → A q := fun q h => by rw [← hAe]; exact Or.inr h
  have hS : va_S A s.heap s.heap [] := va_S.rf
  have hXa := hX.nar hAw
  have hP : va_P (dC, dI) vwCl (xG L cid K N v) s.heap := hP
  have hl := lv_entry ([.ref p0.toNat, .int (iI p1)]) (n := 2) (Nat.le_of_ble_eq_true rfl)
  rw [lg_entry_eq]
  generalize (lg_sl ([.ref p0.toNat, .int (iI p1)]) ++ List.replicate (2 - (lg_sl ([.ref p0.toNat, .int (iI p1)])).length) Slot.unset).toArray = ls at hl ⊢
  have hl : lv_has ls 2 [(0, .ref p0.toNat), (1, .int (iI p1))] := hl
  generalize hQ : MQ below (va_Qi (fun (r : Int32) (_ : Unit) => ∃ z : Int, r = iI z ∧ (rg z)) (fun _ _ => True) A) ([.ref p0.toNat, .int (iI p1)] : List Value).toArray s 0 0 A = Q
  suffices ST : ∀ (H : Heap) (locs : List Loc), va_P (dC, dI) vwCl (xG L cid K N v) H → va_S A s.heap H locs → W p l e ({ frames := 0, cells := 0, slots := 0, locals := 0 }) s m ([.ref p0.toNat, .int (iI p1)] : List Value).toArray below meth c H locs 0 0 Q (F0 m 0 ls []) from ST _ _ hP hS
  clear hP hS
  intro H locs hP hS
  refine lv_iload_n hx hb dX1_handNumber_0 rfl (lv_at hl 1 rfl) ?_
  refine xr_if_lt (tgt := 19) hx hb dX1_handNumber_1 (by decide) (by omega) (fun h_1 => ?_) (fun h_1 => ?_)
  · refine lv_iconst (v := iI (-1)) hx hb dX1_handNumber_19 rfl ?_
    rw [← hQ]
    exact W.iret (v := iI (-1)) hx hb hr (fun t ht hW => ⟨⟨iI (-1), (), rfl, ⟨(-1), rfl, by omega⟩, trivial⟩, hS.F ht⟩) hS.2.2 dX1_handNumber_20
  · refine lv_iload_n hx hb dX1_handNumber_4 rfl (lv_at hl 1 rfl) ?_
    refine lv_bipush (v := iI 6) hx hb dX1_handNumber_5 rfl ?_
    refine xr_icmp_ge (tgt := 19) hx hb dX1_handNumber_7 (by decide) (by omega) (by omega) (fun h_2 => ?_) (fun h_2 => ?_)
    · refine lv_iconst (v := iI (-1)) hx hb dX1_handNumber_19 rfl ?_
      rw [← hQ]
      exact W.iret (v := iI (-1)) hx hb hr (fun t ht hW => ⟨⟨iI (-1), (), rfl, ⟨(-1), rfl, by omega⟩, trivial⟩, hS.F ht⟩) hS.2.2 dX1_handNumber_20
    · refine lv_aload_n hx hb dX1_handNumber_10 rfl (lv_at hl 0 rfl) ?_
      have h_3 : ok L K (v p0 4) 56 := xf_1_4 hI q0
      have h_4 : N (v p0 4) = 6 := xn_56 hI h_3
      refine gx_RX1_21 (y := v p0 4) hx hb hj hown hK hP q0 ((xf_1_4 hI q0).1) rfl dX1_handNumber_11 ?_
      refine lv_iload_n hx hb dX1_handNumber_14 rfl (lv_at hl 1 rfl) ?_
      have h_5 : (-2147483648) ≤ v (v p0 4) p1 ∧ v (v p0 4) p1 ≤ 2147483647 := xe_56 hI h_3 (by omega)
      refine ax_56 (y := v (v p0 4) p1) hx hb hK hP h_3 (by omega) (by omega) (by omega) rfl dX1_handNumber_15 ?_
      refine lv_goto (tgt := 20) hx hb dX1_handNumber_16 (by decide) ?_
      rw [← hQ]
      exact W.iret (v := iI (v (v p0 4) p1)) hx hb hr (fun t ht hW => ⟨⟨iI (v (v p0 4) p1), (), rfl, ⟨v (v p0 4) p1, rfl, by omega⟩, trivial⟩, hS.F ht⟩) hS.2.2 dX1_handNumber_20
set_option maxHeartbeats 2000000 in
set_option maxRecDepth 100000 in
theorem sX1_allow (l : Launch) (dC : Nat → ClassId) (dI : Nat → Nat → Nat) (sz : Nat) (L : List Nat) (cid : Nat → ClassId) (K : Int → Nat) (N : Int → Int) (tW : Nat) (sK sV : Nat → Nat) (v : Int → Int → Int) (p0 : Int) (p1 : Int) (hI : xI L K N v) (q0 : ok L K p0 1) (q1 : rg p1) : Met l yX1_allow (jk yX1_allow cX1_allow 2 none) ({ frames := 0, cells := 0, slots := 0, locals := 0 }) (va_Pc [.ref p0.toNat, .int (iI p1)] (xP (dC, dI) (xG L cid K N v) (xT cid) tW sK sV sz)) (va_Qv (fun (u : (Int → Int → Int)) => (xI L K N u) ∧ (fr K [(58, (-1))] u v)) (fun u t => va_P (dC, dI) vwCl (xG L cid K N u) t.heap ∧ va_K (dC, dI) vwCl (xT cid) t ∧ va_D (va_A (xG L cid K N v) sz) (xG L cid K N u)) (va_A (xG L cid K N v) sz)) 0 0 (va_A (xG L cid K N v) sz) := by
  refine Met.ofW (cc := cX1_allow) (maxL := 2) (ret := none) (by decide) rfl ?_
  intro p e s m args below meth c s₁ B hml hv
  obtain ⟨rfl, ⟨hsz, hP, hK, hD0⟩, hX⟩ := hv
  have hx := B.exec
  have hb := B.bytes
  have hr := B.returns
  have hts := atoms_spec (ws := (jk yX1_allow cX1_allow 2 none)) B.pre
  have hj : ∀ w ∈ jw, w.before ([.ref p0.toNat, .int (iI p1)] : List Value).toArray s = true := fun w h => hts w (jm h)
  have hown : s.vm.findClass RX1 = some m.cls := findClass_of_methodNamed B.named
  subst hsz
  have hD := hD0.self (sz := s.heap.size)
  generalize hAe : (va_A (xG L cid K N v) s.heap.size) = A at hD hX ⊢
  have hA : ∀ q : Nat, s.heap.size ≤ q → A q := fun q h => by rw [← hAe]; exact Or.inr h
  have hS : va_S A s.heap s.heap [] := va_S.rf
  have hXa := hX
  have hP : va_P (dC, dI) vwCl (xG L cid K N v) s.heap := hP
  have hl := lv_entry ([.ref p0.toNat, .int (iI p1)]) (n := 2) (Nat.le_of_ble_eq_true rfl)
  rw [lg_entry_eq]
  generalize (lg_sl ([.ref p0.toNat, .int (iI p1)]) ++ List.replicate (2 - (lg_sl ([.ref p0.toNat, .int (iI p1)])).length) Slot.unset).toArray = ls at hl ⊢
  have hl : lv_has ls 2 [(0, .ref p0.toNat), (1, .int (iI p1))] := hl
  generalize hQ : MQ below (va_Qv (fun (u : (Int → Int → Int)) => (xI L K N u) ∧ (fr K [(58, (-1))] u v)) (fun u t => va_P (dC, dI) vwCl (xG L cid K N u) t.heap ∧ va_K (dC, dI) vwCl (xT cid) t ∧ va_D A (xG L cid K N u)) A) ([.ref p0.toNat, .int (iI p1)] : List Value).toArray s 0 0 A = Q
  suffices ST : ∀ (H : Heap) (locs : List Loc), va_P (dC, dI) vwCl (xG L cid K N v) H → va_S A s.heap H locs → W p l e ({ frames := 0, cells := 0, slots := 0, locals := 0 }) s m ([.ref p0.toNat, .int (iI p1)] : List Value).toArray below meth c H locs 0 0 Q (F0 m 0 ls []) from ST _ _ hP hS
  clear hP hS
  intro H locs hP hS
  refine lv_iload_n hx hb dX1_allow_0 rfl (lv_at hl 1 rfl) ?_
  refine xr_if_lt (tgt := 34) hx hb dX1_allow_1 (by decide) (by omega) (fun h_1 => ?_) (fun h_1 => ?_)
  · rw [← hQ]
    exact W.vret hx hb hr (fun t ht hW => ⟨⟨v, rfl, ⟨hI, fr_rf⟩, by rw [ht]; exact hP, va_K.moved hW.alike hK, hD⟩, hS.F ht⟩) hS.2.2 dX1_allow_34
  · refine lv_iload_n hx hb dX1_allow_4 rfl (lv_at hl 1 rfl) ?_
    refine lv_bipush (v := iI 6) hx hb dX1_allow_5 rfl ?_
    refine xr_icmp_ge (tgt := 34) hx hb dX1_allow_7 (by decide) (by omega) (by omega) (fun h_2 => ?_) (fun h_2 => ?_)
    · rw [← hQ]
      exact W.vret hx hb hr (fun t ht hW => ⟨⟨v, rfl, ⟨hI, fr_rf⟩, by rw [ht]; exact hP, va_K.moved hW.alike hK, hD⟩, hS.F ht⟩) hS.2.2 dX1_allow_34
    · refine lv_aload_n hx hb dX1_allow_10 rfl (lv_at hl 0 rfl) ?_
      have h_3 : (-2147483648) ≤ v p0 3 ∧ v p0 3 ≤ 2147483647 := xf_1_3 hI q0
      refine gx_RX1_37 (y := v p0 3) hx hb hj hown hK hP q0 rfl dX1_allow_11 ?_
      refine xr_if_le (tgt := 34) hx hb dX1_allow_14 (by decide) (by omega) (fun h_4 => ?_) (fun h_4 => ?_)
      · rw [← hQ]
        exact W.vret hx hb hr (fun t ht hW => ⟨⟨v, rfl, ⟨hI, fr_rf⟩, by rw [ht]; exact hP, va_K.moved hW.alike hK, hD⟩, hS.F ht⟩) hS.2.2 dX1_allow_34
      · refine lv_aload_n hx hb dX1_allow_17 rfl (lv_at hl 0 rfl) ?_
        have h_5 : ok L K (v p0 6) 58 := xf_1_6 hI q0
        have h_6 : N (v p0 6) = 6 := xn_58 hI h_5
        refine gx_RX1_27 (y := v p0 6) hx hb hj hown hK hP q0 ((xf_1_6 hI q0).1) rfl dX1_allow_18 ?_
        refine lv_iload_n hx hb dX1_allow_21 rfl (lv_at hl 1 rfl) ?_
        refine lv_dup2_11 hx hb dX1_allow_22 rfl rfl ?_
        have h_7 : (-2147483648) ≤ v (v p0 6) p1 ∧ v (v p0 6) p1 ≤ 2147483647 := xe_58 hI h_5 (by omega)
        refine ax_58 (y := v (v p0 6) p1) hx hb hK hP h_5 (by omega) (by omega) (by omega) rfl dX1_allow_23 ?_
        refine lv_iconst (v := iI 1) hx hb dX1_allow_24 rfl ?_
        refine lv_aload_n hx hb dX1_allow_25 rfl (lv_at hl 0 rfl) ?_
        refine gx_RX1_37 (y := v p0 3) hx hb hj hown hK hP q0 rfl dX1_allow_26 ?_
        refine lv_iconst (v := iI 1) hx hb dX1_allow_29 rfl ?_
        refine xr_sub hx hb dX1_allow_30 ?_
        refine xr_kept (fun z_8 h_9 h_10 => ?_)
        refine lv_ishl hx hb dX1_allow_31 ?_
        refine xr_any (fun z_11 h_12 => ?_)
        refine lv_ior hx hb dX1_allow_32 ?_
        refine xr_any (fun z_13 h_14 => ?_)
        refine sx_58 (y := z_13) hx hb hK hP hD hS hI h_5 (by omega) (by omega) (by omega) ⟨by omega, by omega⟩ dX1_allow_33 (fun v_15 H locs f_16 e_17 o_18 I_19 hP hD hS => ?_)
        rw [← hQ]
        exact W.vret hx hb hr (fun t ht hW => ⟨⟨v_15, rfl, ⟨I_19, (fr_tr f_16 rfl fr_rf)⟩, by rw [ht]; exact hP, va_K.moved hW.alike hK, hD⟩, hS.F ht⟩) hS.2.2 dX1_allow_34
set_option maxHeartbeats 2000000 in
set_option maxRecDepth 100000 in
theorem sX1_handOf (l : Launch) (dC : Nat → ClassId) (dI : Nat → Nat → Nat) (sz : Nat) (L : List Nat) (cid : Nat → ClassId) (K : Int → Nat) (N : Int → Int) (tW : Nat) (sK sV : Nat → Nat) (v : Int → Int → Int) (p0 : Int) (p1 : Int) (hI : xI L K N v) (q0 : ok L K p0 1) (q1 : rg p1) : Met l yX1_handOf (jk yX1_handOf cX1_handOf 3 (some .int)) ({ frames := 1, cells := 0, slots := 0, locals := 21 }) (va_Pc [.ref p0.toNat, .int (iI p1)] (xP (dC, dI) (xG L cid K N v) (xT cid) tW sK sV sz)) (va_Qi (fun (r : Int32) (_ : Unit) => ∃ z : Int, r = iI z ∧ (rg z)) (fun _ _ => True) (va_A [] sz)) 0 0 (va_A [] sz) := by
  refine Met.ofW (cc := cX1_handOf) (maxL := 3) (ret := (some .int)) (by decide) rfl ?_
  intro p e s m args below meth c s₁ B hml hv
  obtain ⟨rfl, ⟨hsz, hP, hK, hD0⟩, hX⟩ := hv
  have hx := B.exec
  have hb := B.bytes
  have hr := B.returns
  have hts := atoms_spec (ws := (jk yX1_handOf cX1_handOf 3 (some .int))) B.pre
  have hj : ∀ w ∈ jw, w.before ([.ref p0.toNat, .int (iI p1)] : List Value).toArray s = true := fun w h => hts w (jm h)
  have hown : s.vm.findClass RX1 = some m.cls := findClass_of_methodNamed B.named
  subst hsz
  have hDw := hD0.self (sz := s.heap.size)
  have hAA : ∀ q : Nat, s.heap.size ≤ q → va_A (xG L cid K N v) s.heap.size q := fun q h => Or.inr h
  have hAw : ∀ q, va_A [] s.heap.size q → va_A (xG L cid K N v) s.heap.size q := ja_nil va_S.rf hAA
  generalize hAe : (va_A [] s.heap.size) = A at hAw ⊢
  have hA : ∀ q : Nat, s.heap.size ≤ q → A q := fun q h => by rw [← hAe]; exact Or.inr h
  have hS : va_S A s.heap s.heap [] := va_S.rf
  have hXa := hX.nar hAw
  have hP : va_P (dC, dI) vwCl (xG L cid K N v) s.heap := hP
  have hl := lv_entry ([.ref p0.toNat, .int (iI p1)]) (n := 3) (Nat.le_of_ble_eq_true rfl)
  rw [lg_entry_eq]
  generalize (lg_sl ([.ref p0.toNat, .int (iI p1)]) ++ List.replicate (3 - (lg_sl ([.ref p0.toNat, .int (iI p1)])).length) Slot.unset).toArray = ls at hl ⊢
  have hl : lv_has ls 3 [(0, .ref p0.toNat), (1, .int (iI p1))] := hl
  generalize hQ : MQ below (va_Qi (fun (r : Int32) (_ : Unit) => ∃ z : Int, r = iI z ∧ (rg z)) (fun _ _ => True) A) ([.ref p0.toNat, .int (iI p1)] : List Value).toArray s 0 0 A = Q
  suffices ST : ∀ (H : Heap) (locs : List Loc), va_P (dC, dI) vwCl (xG L cid K N v) H → va_S A s.heap H locs → W p l e ({ frames := 1, cells := 0, slots := 0, locals := 21 }) s m ([.ref p0.toNat, .int (iI p1)] : List Value).toArray below meth c H locs 0 0 Q (F0 m 0 ls []) from ST _ _ hP hS
  clear hP hS
  intro H locs hP hS
  refine lv_iconst (v := iI 0) hx hb dX1_handOf_0 rfl ?_
  refine lv_istore_n (lv' := [(2, .int (iI 0)), (0, .ref p0.toNat), (1, .int (iI p1))]) hx hb dX1_handOf_1 rfl hl (by decide) rfl (fun ls hl => ?_)
  have L2 : ∀ (n2 : Nat) (a2_2 : Int) (H : Heap) (locs : List Loc) (ls : Array Slot), (0 ≤ a2_2 ∧ a2_2 ≤ 2147483647) → (0 < (n2 : Int) ∧ (v p0 3) - a2_2 < (n2 : Int)) → va_P (dC, dI) vwCl (xG L cid K N v) H → va_S A s.heap H locs → lv_has ls 3 [(2, .int (iI a2_2)), (0, .ref p0.toNat), (1, .int (iI p1))] → W p l e ({ frames := 1, cells := 0, slots := 0, locals := 21 }) s m ([.ref p0.toNat, .int (iI p1)] : List Value).toArray below meth c H locs 0 0 Q (F0 m 2 ls []) := by
    intro n2
    induction n2 with
    | zero =>
      intro a2_2 H locs ls h_1 hm2 hP hS hl
      exfalso; omega
    | succ n2 ih2 =>
      intro a2_2 H locs ls h_2 hm2 hP hS hl
      refine lv_iload_n hx hb dX1_handOf_2 rfl (lv_at hl 0 rfl) ?_
      refine lv_aload_n hx hb dX1_handOf_3 rfl (lv_at hl 1 rfl) ?_
      have h_3 : (-2147483648) ≤ v p0 3 ∧ v p0 3 ≤ 2147483647 := xf_1_3 hI q0
      refine gx_RX1_37 (y := v p0 3) hx hb hj hown hK hP q0 rfl dX1_handOf_4 ?_
      refine xr_icmp_ge (tgt := 43) hx hb dX1_handOf_7 (by decide) (by omega) (by omega) (fun h_4 => ?_) (fun h_4 => ?_)
      · refine lv_iconst (v := iI (-1)) hx hb dX1_handOf_43 rfl ?_
        rw [← hQ]
        exact W.iret (v := iI (-1)) hx hb hr (fun t ht hW => ⟨⟨iI (-1), (), rfl, ⟨(-1), rfl, by omega⟩, trivial⟩, hS.F ht⟩) hS.2.2 dX1_handOf_44
      · refine lv_iload_n hx hb dX1_handOf_10 rfl (lv_at hl 0 rfl) ?_
        refine lv_bipush (v := iI 7) hx hb dX1_handOf_11 rfl ?_
        refine xr_icmp_ge (tgt := 43) hx hb dX1_handOf_13 (by decide) (by omega) (by omega) (fun h_5 => ?_) (fun h_5 => ?_)
        · refine lv_iconst (v := iI (-1)) hx hb dX1_handOf_43 rfl ?_
          rw [← hQ]
          exact W.iret (v := iI (-1)) hx hb hr (fun t ht hW => ⟨⟨iI (-1), (), rfl, ⟨(-1), rfl, by omega⟩, trivial⟩, hS.F ht⟩) hS.2.2 dX1_handOf_44
        · refine lv_aload_n hx hb dX1_handOf_16 rfl (lv_at hl 1 rfl) ?_
          have h_6 : ok L K (v p0 0) 53 := xf_1_0 hI q0
          have h_7 : N (v p0 0) = 7 := xn_53 hI h_6
          refine gx_RX1_11 (y := v p0 0) hx hb hj hown hK hP q0 ((xf_1_0 hI q0).1) rfl dX1_handOf_17 ?_
          refine lv_iload_n hx hb dX1_handOf_20 rfl (lv_at hl 0 rfl) ?_
          have h_8 : (-2147483648) ≤ v (v p0 0) a2_2 ∧ v (v p0 0) a2_2 ≤ 2147483647 := xe_53 hI h_6 (by omega)
          refine ax_53 (y := v (v p0 0) a2_2) hx hb hK hP h_6 (by omega) (by omega) (by omega) rfl dX1_handOf_21 ?_
          refine lv_iload_n hx hb dX1_handOf_22 rfl (lv_at hl 2 rfl) ?_
          refine xr_icmp_ne (tgt := 37) hx hb dX1_handOf_23 (by decide) (by omega) (by omega) (fun h_9 => ?_) (fun h_9 => ?_)
          · refine lv_iinc (v := iI (a2_2 + 1)) (lv' := [(2, .int (iI (a2_2 + 1))), (0, .ref p0.toNat), (1, .int (iI p1))]) hx hb dX1_handOf_37 hl (k := 0) rfl (iI_add _ _) (by decide) rfl (fun ls hl => ?_)
            refine lv_goto (tgt := 2) hx hb dX1_handOf_40 (by decide) ?_
            exact ih2 (a2_2 + 1) H locs ls (by omega) (by omega) hP hS hl
          · refine lv_aload_n hx hb dX1_handOf_26 rfl (lv_at hl 1 rfl) ?_
            refine lv_aload_n hx hb dX1_handOf_27 rfl (lv_at hl 1 rfl) ?_
            have h_10 : ok L K (v p0 2) 55 := xf_1_2 hI q0
            have h_11 : N (v p0 2) = 7 := xn_55 hI h_10
            refine gx_RX1_18 (y := v p0 2) hx hb hj hown hK hP q0 ((xf_1_2 hI q0).1) rfl dX1_handOf_28 ?_
            refine lv_iload_n hx hb dX1_handOf_31 rfl (lv_at hl 0 rfl) ?_
            have h_12 : (-2147483648) ≤ v (v p0 2) a2_2 ∧ v (v p0 2) a2_2 ≤ 2147483647 := xe_55 hI h_10 (by omega)
            refine ax_55 (y := v (v p0 2) a2_2) hx hb hK hP h_10 (by omega) (by omega) (by omega) rfl dX1_handOf_32 ?_
            refine jc_i (va_runV (As := [.int (iI (v (v p0 2) a2_2))]) (rest := []) ⟨hx, hb, hml, hown, hts⟩ (sX1_handNumber l dC dI _ L cid K N tW sK sV v p0 (v (v p0 2) a2_2) hI q0 (by omega)) (cwV 1 hts (jgoodV m_875 m_876 m_877 m_878 m_879) rfl rfl rfl (by decide +kernel) ⟨(Nat.le_of_ble_eq_true rfl), (Nat.le_of_ble_eq_true rfl)⟩) ⟨xP_blind, xrecv hK hP q0 rfl rfl, fun U hU hW => ⟨rfl, xP_of hU hW hP hK hDw hX hS hAw hAA⟩⟩ rfl rfl hl.1 rfl (lv_room (Nat.le_of_ble_eq_true rfl)) dX1_handOf_33 ⟨(Nat.le_of_ble_eq_true rfl), (Nat.le_of_ble_eq_true rfl)⟩) hP hS hA (fun r_13 H locs w_14 hP hS => ?_)
            obtain ⟨z_15, rfl, h_16⟩ := w_14
            rw [← hQ]
            exact W.iret (v := iI z_15) hx hb hr (fun t ht hW => ⟨⟨iI z_15, (), rfl, ⟨z_15, rfl, by omega⟩, trivial⟩, hS.F ht⟩) hS.2.2 dX1_handOf_36
  exact L2 ((((v p0 3) - 0 : Int)).toNat + 1) 0 H locs ls (by omega) (by omega) hP hS hl
set_option maxHeartbeats 2000000 in
set_option maxRecDepth 100000 in
theorem sX1_sumLacks (l : Launch) (dC : Nat → ClassId) (dI : Nat → Nat → Nat) (sz : Nat) (L : List Nat) (cid : Nat → ClassId) (K : Int → Nat) (N : Int → Int) (tW : Nat) (sK sV : Nat → Nat) (v : Int → Int → Int) (p0 : Int) (p1 : Int) (p2 : Int) (hI : xI L K N v) (q0 : ok L K p0 1) (q1 : rg p1) (q2 : rg p2) : Met l yX1_sumLacks (jk yX1_sumLacks cX1_sumLacks 5 none) ({ frames := 1, cells := 0, slots := 0, locals := 21 }) (va_Pc [.ref p0.toNat, .int (iI p1), .int (iI p2)] (xP (dC, dI) (xG L cid K N v) (xT cid) tW sK sV sz)) (va_Qv (fun (u : (Int → Int → Int)) => (xI L K N u) ∧ (fr K [(59, (-1))] u v)) (fun u t => va_P (dC, dI) vwCl (xG L cid K N u) t.heap ∧ va_K (dC, dI) vwCl (xT cid) t ∧ va_D (va_A (xG L cid K N v) sz) (xG L cid K N u)) (va_A (xG L cid K N v) sz)) 0 0 (va_A (xG L cid K N v) sz) := by
  refine Met.ofW (cc := cX1_sumLacks) (maxL := 5) (ret := none) (by decide) rfl ?_
  intro p e s m args below meth c s₁ B hml hv
  obtain ⟨rfl, ⟨hsz, hP, hK, hD0⟩, hX⟩ := hv
  have hx := B.exec
  have hb := B.bytes
  have hr := B.returns
  have hts := atoms_spec (ws := (jk yX1_sumLacks cX1_sumLacks 5 none)) B.pre
  have hj : ∀ w ∈ jw, w.before ([.ref p0.toNat, .int (iI p1), .int (iI p2)] : List Value).toArray s = true := fun w h => hts w (jm h)
  have hown : s.vm.findClass RX1 = some m.cls := findClass_of_methodNamed B.named
  subst hsz
  have hD := hD0.self (sz := s.heap.size)
  generalize hAe : (va_A (xG L cid K N v) s.heap.size) = A at hD hX ⊢
  have hA : ∀ q : Nat, s.heap.size ≤ q → A q := fun q h => by rw [← hAe]; exact Or.inr h
  have hS : va_S A s.heap s.heap [] := va_S.rf
  have hXa := hX
  have hP : va_P (dC, dI) vwCl (xG L cid K N v) s.heap := hP
  have hl := lv_entry ([.ref p0.toNat, .int (iI p1), .int (iI p2)]) (n := 5) (Nat.le_of_ble_eq_true rfl)
  rw [lg_entry_eq]
  generalize (lg_sl ([.ref p0.toNat, .int (iI p1), .int (iI p2)]) ++ List.replicate (5 - (lg_sl ([.ref p0.toNat, .int (iI p1), .int (iI p2)])).length) Slot.unset).toArray = ls at hl ⊢
  have hl : lv_has ls 5 [(0, .ref p0.toNat), (1, .int (iI p1)), (2, .int (iI p2))] := hl
  generalize hQ : MQ below (va_Qv (fun (u : (Int → Int → Int)) => (xI L K N u) ∧ (fr K [(59, (-1))] u v)) (fun u t => va_P (dC, dI) vwCl (xG L cid K N u) t.heap ∧ va_K (dC, dI) vwCl (xT cid) t ∧ va_D A (xG L cid K N u)) A) ([.ref p0.toNat, .int (iI p1), .int (iI p2)] : List Value).toArray s 0 0 A = Q
  suffices ST : ∀ (H : Heap) (locs : List Loc), va_P (dC, dI) vwCl (xG L cid K N v) H → va_S A s.heap H locs → W p l e ({ frames := 1, cells := 0, slots := 0, locals := 21 }) s m ([.ref p0.toNat, .int (iI p1), .int (iI p2)] : List Value).toArray below meth c H locs 0 0 Q (F0 m 0 ls []) from ST _ _ hP hS
  clear hP hS
  intro H locs hP hS
  refine lv_aload_n hx hb dX1_sumLacks_0 rfl (lv_at hl 0 rfl) ?_
  have h_1 : ok L K (v p0 8) 59 := xf_1_8 hI q0
  have h_2 : N (v p0 8) = 128 := xn_59 hI h_1
  refine gx_RX1_30 (y := v p0 8) hx hb hj hown hK hP q0 ((xf_1_8 hI q0).1) rfl dX1_sumLacks_1 ?_
  refine lv_iconst (v := iI 0) hx hb dX1_sumLacks_4 rfl ?_
  refine lv_iconst (v := iI 0) hx hb dX1_sumLacks_5 rfl ?_
  refine sx_59 (y := 0) hx hb hK hP hD hS hI h_1 (by omega) (by omega) (by omega) ⟨by omega, by omega⟩ dX1_sumLacks_6 (fun v_3 H locs f_4 e_5 o_6 I_7 hP hD hS => ?_)
  refine lv_iconst (v := iI 1) hx hb dX1_sumLacks_7 rfl ?_
  refine lv_istore_n (lv' := [(3, .int (iI 1)), (0, .ref p0.toNat), (1, .int (iI p1)), (2, .int (iI p2))]) hx hb dX1_sumLacks_8 rfl hl (by decide) rfl (fun ls hl => ?_)
  have L9 : ∀ (n9 : Nat) (a3_9 : Int) (vc9 : Int → Int → Int) (H : Heap) (locs : List Loc) (ls : Array Slot), (1 ≤ a3_9 ∧ a3_9 ≤ 2147483647) → (0 < (n9 : Int) ∧ p2 - a3_9 < (n9 : Int)) → fr K [(59, (-1))] vc9 v_3 → xI L K N vc9 → va_P (dC, dI) vwCl (xG L cid K N vc9) H → va_D A (xG L cid K N vc9) → va_S A s.heap H locs → lv_has ls 5 [(3, .int (iI a3_9)), (0, .ref p0.toNat), (1, .int (iI p1)), (2, .int (iI p2))] → W p l e ({ frames := 1, cells := 0, slots := 0, locals := 21 }) s m ([.ref p0.toNat, .int (iI p1), .int (iI p2)] : List Value).toArray below meth c H locs 0 0 Q (F0 m 9 ls []) := by
    intro n9
    induction n9 with
    | zero =>
      intro a3_9 vc9 H locs ls h_8 hm9 f_9 I_10 hP hD hS hl
      exfalso; omega
    | succ n9 ih9 =>
      intro a3_9 vc9 H locs ls h_11 hm9 f_12 I_13 hP hD hS hl
      refine lv_iload_n hx hb dX1_sumLacks_9 rfl (lv_at hl 0 rfl) ?_
      refine lv_iload_n hx hb dX1_sumLacks_10 rfl (lv_at hl 3 rfl) ?_
      refine xr_icmp_ge (tgt := 75) hx hb dX1_sumLacks_11 (by decide) (by omega) (by omega) (fun h_14 => ?_) (fun h_14 => ?_)
      · rw [← hQ]
        exact W.vret hx hb hr (fun t ht hW => ⟨⟨vc9, rfl, ⟨I_13, (fr_tr f_12 rfl (fr_tr f_4 rfl fr_rf))⟩, by rw [ht]; exact hP, va_K.moved hW.alike hK, hD⟩, hS.F ht⟩) hS.2.2 dX1_sumLacks_75
      · refine lv_iload_n hx hb dX1_sumLacks_14 rfl (lv_at hl 0 rfl) ?_
        refine lv_sipush (v := iI 128) hx hb dX1_sumLacks_15 rfl ?_
        refine xr_icmp_ge (tgt := 75) hx hb dX1_sumLacks_18 (by decide) (by omega) (by omega) (fun h_15 => ?_) (fun h_15 => ?_)
        · rw [← hQ]
          exact W.vret hx hb hr (fun t ht hW => ⟨⟨vc9, rfl, ⟨I_13, (fr_tr f_12 rfl (fr_tr f_4 rfl fr_rf))⟩, by rw [ht]; exact hP, va_K.moved hW.alike hK, hD⟩, hS.F ht⟩) hS.2.2 dX1_sumLacks_75
        · refine lv_iload_n hx hb dX1_sumLacks_21 rfl (lv_at hl 2 rfl) ?_
          refine lv_iload_n hx hb dX1_sumLacks_22 rfl (lv_at hl 0 rfl) ?_
          refine jc_i (va_runS (As := [.int (iI a3_9)]) (rest := [.int (iI p1)]) ⟨hx, hb, hml, hown, hts⟩ (sJ6_numberOfTrailingZeros_0f7a4 l dC dI _ a3_9 (by omega)) (va_cwS 1 hts (jgoodS m_880 m_881 m_882 m_883) rfl rfl rfl (by decide +kernel) ⟨(Nat.le_of_ble_eq_true rfl), (Nat.le_of_ble_eq_true rfl)⟩) ⟨jw_blind0, fun U hU hW => ⟨rfl, congrArg Array.size hU⟩⟩ rfl rfl hl.1 rfl (lv_room (Nat.le_of_ble_eq_true rfl)) dX1_sumLacks_23 ⟨(Nat.le_of_ble_eq_true rfl), (Nat.le_of_ble_eq_true rfl)⟩) hP hS hA (fun r_16 H locs w_17 hP hS => ?_)
          obtain ⟨z_18, rfl, h_19⟩ := w_17
          refine xr_add hx hb dX1_sumLacks_26 ?_
          refine xr_kept (fun z_20 h_21 h_22 => ?_)
          refine lv_istore (lv' := [(4, .int (iI z_20)), (3, .int (iI a3_9)), (0, .ref p0.toNat), (1, .int (iI p1)), (2, .int (iI p2))]) hx hb dX1_sumLacks_27 hl (by decide) rfl (fun ls hl => ?_)
          refine lv_aload_n hx hb dX1_sumLacks_29 rfl (lv_at hl 2 rfl) ?_
          refine gx_RX1_30 (y := v p0 8) hx hb hj hown hK hP q0 ((xf_1_8 I_13 q0).1) (((fr_use q0 f_12 rfl)).trans (fr_use q0 f_4 rfl)) dX1_sumLacks_30 ?_
          refine lv_iload_n hx hb dX1_sumLacks_33 rfl (lv_at hl 1 rfl) ?_
          refine lv_aload_n hx hb dX1_sumLacks_34 rfl (lv_at hl 2 rfl) ?_
          refine gx_RX1_30 (y := v p0 8) hx hb hj hown hK hP q0 ((xf_1_8 I_13 q0).1) (((fr_use q0 f_12 rfl)).trans (fr_use q0 f_4 rfl)) dX1_sumLacks_35 ?_
          refine lv_iload_n hx hb dX1_sumLacks_38 rfl (lv_at hl 1 rfl) ?_
          refine lv_iload_n hx hb dX1_sumLacks_39 rfl (lv_at hl 1 rfl) ?_
          refine lv_iconst (v := iI 1) hx hb dX1_sumLacks_40 rfl ?_
          refine xr_sub hx hb dX1_sumLacks_41 ?_
          refine xr_andB hx hb (by omega) (by omega) (by omega) (by omega) dX1_sumLacks_42 (fun z_23 h_24 => ?_)
          have h_25 : (-2147483648) ≤ vc9 (v p0 8) z_23 ∧ vc9 (v p0 8) z_23 ≤ 2147483647 := xe_59 I_13 h_1 (by omega)
          refine ax_59 (y := vc9 (v p0 8) z_23) hx hb hK hP h_1 (by omega) (by omega) (by omega) rfl dX1_sumLacks_43 ?_
          refine lv_iload hx hb dX1_sumLacks_44 (lv_at hl 0 rfl) ?_
          have J67 : ∀ (s0_67 : Int) (H : Heap) (locs : List Loc) (ls : Array Slot), ((-2147483648) ≤ s0_67 ∧ s0_67 ≤ 2147483647) → va_P (dC, dI) vwCl (xG L cid K N vc9) H → va_D A (xG L cid K N vc9) → va_S A s.heap H locs → lv_has ls 5 [(4, .int (iI z_20)), (3, .int (iI a3_9)), (0, .ref p0.toNat), (1, .int (iI p1)), (2, .int (iI p2))] → W p l e ({ frames := 1, cells := 0, slots := 0, locals := 21 }) s m ([.ref p0.toNat, .int (iI p1), .int (iI p2)] : List Value).toArray below meth c H locs 0 0 Q (F0 m 67 ls [.int (iI s0_67), .int (iI (vc9 (v p0 8) z_23)), .int (iI a3_9), .ref (v p0 8).toNat]) := by
            intro s0_67 H locs ls h_26 hP hD hS hl
            refine xr_add hx hb dX1_sumLacks_67 ?_
            refine xr_kept (fun z_27 h_28 h_29 => ?_)
            refine sx_59 (y := z_27) hx hb hK hP hD hS I_13 h_1 (by omega) (by omega) (by omega) ⟨by omega, by omega⟩ dX1_sumLacks_68 (fun v_30 H locs f_31 e_32 o_33 I_34 hP hD hS => ?_)
            refine lv_iinc (v := iI (a3_9 + 1)) (lv' := [(3, .int (iI (a3_9 + 1))), (4, .int (iI z_20)), (0, .ref p0.toNat), (1, .int (iI p1)), (2, .int (iI p2))]) hx hb dX1_sumLacks_69 hl (k := 1) rfl (iI_add _ _) (by decide) rfl (fun ls hl => ?_)
            refine lv_goto (tgt := 9) hx hb dX1_sumLacks_72 (by decide) ?_
            exact ih9 (a3_9 + 1) v_30 H locs ls (by omega) (by omega) (fr_tr f_31 rfl (fr_tr f_12 rfl fr_rf)) I_34 hP hD hS (lv_sub hl [0, 2, 3, 4] rfl)
          have J66 : ∀ (H : Heap) (locs : List Loc) (ls : Array Slot), va_P (dC, dI) vwCl (xG L cid K N vc9) H → va_D A (xG L cid K N vc9) → va_S A s.heap H locs → lv_has ls 5 [(4, .int (iI z_20)), (3, .int (iI a3_9)), (0, .ref p0.toNat), (1, .int (iI p1)), (2, .int (iI p2))] → W p l e ({ frames := 1, cells := 0, slots := 0, locals := 21 }) s m ([.ref p0.toNat, .int (iI p1), .int (iI p2)] : List Value).toArray below meth c H locs 0 0 Q (F0 m 66 ls [.int (iI (vc9 (v p0 8) z_23)), .int (iI a3_9), .ref (v p0 8).toNat]) := by
            intro H locs ls hP hD hS hl
            refine lv_iconst (v := iI 0) hx hb dX1_sumLacks_66 rfl ?_
            exact J67 0 H locs ls (by omega) hP hD hS hl
          refine xr_if_lt (tgt := 66) hx hb dX1_sumLacks_46 (by decide) (by omega) (fun h_35 => ?_) (fun h_35 => ?_)
          · exact J66 H locs ls hP hD hS hl
          · refine lv_iload hx hb dX1_sumLacks_49 (lv_at hl 0 rfl) ?_
            refine lv_bipush (v := iI 7) hx hb dX1_sumLacks_51 rfl ?_
            refine xr_icmp_ge (tgt := 66) hx hb dX1_sumLacks_53 (by decide) (by omega) (by omega) (fun h_36 => ?_) (fun h_36 => ?_)
            · exact J66 H locs ls hP hD hS hl
            · refine lv_aload_n hx hb dX1_sumLacks_56 rfl (lv_at hl 2 rfl) ?_
              have h_37 : ok L K (v p0 1) 54 := xf_1_1 hI q0
              have h_38 : N (v p0 1) = 7 := xn_54 hI h_37
              refine gx_RX1_15 (y := v p0 1) hx hb hj hown hK hP q0 ((xf_1_1 I_13 q0).1) (((fr_use q0 f_12 rfl)).trans (fr_use q0 f_4 rfl)) dX1_sumLacks_57 ?_
              refine lv_iload hx hb dX1_sumLacks_60 (lv_at hl 0 rfl) ?_
              have h_39 : (-2147483648) ≤ v (v p0 1) z_20 ∧ v (v p0 1) z_20 ≤ 2147483647 := xe_54 hI h_37 (by omega)
              refine ax_54 (y := v (v p0 1) z_20) hx hb hK hP h_37 (by omega) (by omega) (by omega) (((fr_use h_37 f_12 rfl)).trans (fr_use h_37 f_4 rfl)) dX1_sumLacks_62 ?_
              refine lv_goto (tgt := 67) hx hb dX1_sumLacks_63 (by decide) ?_
              exact J67 (v (v p0 1) z_20) H locs ls (by omega) hP hD hS hl
  exact L9 (((p2 - 1 : Int)).toNat + 1) 1 v_3 H locs ls (by omega) (by omega) fr_rf I_7 hP hD hS hl
set_option maxHeartbeats 2000000 in
set_option maxRecDepth 100000 in
theorem sX1_reachWith (l : Launch) (dC : Nat → ClassId) (dI : Nat → Nat → Nat) (sz : Nat) (L : List Nat) (cid : Nat → ClassId) (K : Int → Nat) (N : Int → Int) (tW : Nat) (sK sV : Nat → Nat) (v : Int → Int → Int) (p0 : Int) (p1 : Int) (p2 : Int) (p3 : Int) (hI : xI L K N v) (q0 : ok L K p0 1) (q1 : rg p1) (q2 : rg p2) (q3 : rg p3) : Met l yX1_reachWith (jk yX1_reachWith cX1_reachWith 7 none) ({ frames := 1, cells := 0, slots := 0, locals := 40 }) (va_Pc [.ref p0.toNat, .int (iI p1), .int (iI p2), .int (iI p3)] (xP (dC, dI) (xG L cid K N v) (xT cid) tW sK sV sz)) (va_Qv (fun (u : (Int → Int → Int)) => (xI L K N u) ∧ (fr K [(60, (-1))] u v)) (fun u t => va_P (dC, dI) vwCl (xG L cid K N u) t.heap ∧ va_K (dC, dI) vwCl (xT cid) t ∧ va_D (va_A (xG L cid K N v) sz) (xG L cid K N u)) (va_A (xG L cid K N v) sz)) 0 0 (va_A (xG L cid K N v) sz) := by
  refine Met.ofW (cc := cX1_reachWith) (maxL := 7) (ret := none) (by decide) rfl ?_
  intro p e s m args below meth c s₁ B hml hv
  obtain ⟨rfl, ⟨hsz, hP, hK, hD0⟩, hX⟩ := hv
  have hx := B.exec
  have hb := B.bytes
  have hr := B.returns
  have hts := atoms_spec (ws := (jk yX1_reachWith cX1_reachWith 7 none)) B.pre
  have hj : ∀ w ∈ jw, w.before ([.ref p0.toNat, .int (iI p1), .int (iI p2), .int (iI p3)] : List Value).toArray s = true := fun w h => hts w (jm h)
  have hown : s.vm.findClass RX1 = some m.cls := findClass_of_methodNamed B.named
  subst hsz
  have hD := hD0.self (sz := s.heap.size)
  generalize hAe : (va_A (xG L cid K N v) s.heap.size) = A at hD hX ⊢
  have hA : ∀ q : Nat, s.heap.size ≤ q → A q := fun q h => by rw [← hAe]; exact Or.inr h
  have hS : va_S A s.heap s.heap [] := va_S.rf
  have hXa := hX
  have hP : va_P (dC, dI) vwCl (xG L cid K N v) s.heap := hP
  have hl := lv_entry ([.ref p0.toNat, .int (iI p1), .int (iI p2), .int (iI p3)]) (n := 7) (Nat.le_of_ble_eq_true rfl)
  rw [lg_entry_eq]
  generalize (lg_sl ([.ref p0.toNat, .int (iI p1), .int (iI p2), .int (iI p3)]) ++ List.replicate (7 - (lg_sl ([.ref p0.toNat, .int (iI p1), .int (iI p2), .int (iI p3)])).length) Slot.unset).toArray = ls at hl ⊢
  have hl : lv_has ls 7 [(0, .ref p0.toNat), (1, .int (iI p1)), (2, .int (iI p2)), (3, .int (iI p3))] := hl
  generalize hQ : MQ below (va_Qv (fun (u : (Int → Int → Int)) => (xI L K N u) ∧ (fr K [(60, (-1))] u v)) (fun u t => va_P (dC, dI) vwCl (xG L cid K N u) t.heap ∧ va_K (dC, dI) vwCl (xT cid) t ∧ va_D A (xG L cid K N u)) A) ([.ref p0.toNat, .int (iI p1), .int (iI p2), .int (iI p3)] : List Value).toArray s 0 0 A = Q
  suffices ST : ∀ (H : Heap) (locs : List Loc), va_P (dC, dI) vwCl (xG L cid K N v) H → va_S A s.heap H locs → W p l e ({ frames := 1, cells := 0, slots := 0, locals := 40 }) s m ([.ref p0.toNat, .int (iI p1), .int (iI p2), .int (iI p3)] : List Value).toArray below meth c H locs 0 0 Q (F0 m 0 ls []) from ST _ _ hP hS
  clear hP hS
  intro H locs hP hS
  refine lv_iload_n hx hb dX1_reachWith_0 rfl (lv_at hl 3 rfl) ?_
  refine lv_sipush (v := iI 128) hx hb dX1_reachWith_1 rfl ?_
  refine va_mmin hx hb (by rw [hml]; exact hl.1.symm) hown (hj _ m_884) (hj _ m_761) (hj _ m_758) (hj _ m_762) (Nat.le_of_ble_eq_true rfl) (Nat.le_of_ble_eq_true rfl) (Nat.le_of_ble_eq_true rfl) (Nat.le_of_ble_eq_true rfl) dX1_reachWith_4 ?_
  refine xm_min (by omega) (by omega) (fun z_1 h_2 => ?_)
  refine lv_iconst (v := iI 1) hx hb dX1_reachWith_7 rfl ?_
  refine xr_sub hx hb dX1_reachWith_8 ?_
  refine xr_kept (fun z_3 h_4 h_5 => ?_)
  refine lv_istore (lv' := [(4, .int (iI z_3)), (0, .ref p0.toNat), (1, .int (iI p1)), (2, .int (iI p2)), (3, .int (iI p3))]) hx hb dX1_reachWith_9 hl (by decide) rfl (fun ls hl => ?_)
  have L11 : ∀ (n11 : Nat) (a4_11 : Int) (vc11 : Int → Int → Int) (H : Heap) (locs : List Loc) (ls : Array Slot), ((-2147483648) ≤ a4_11 ∧ a4_11 ≤ 2147483647) → (0 < (n11 : Int) ∧ a4_11 < (n11 : Int)) → fr K [(60, (-1))] vc11 v → xI L K N vc11 → va_P (dC, dI) vwCl (xG L cid K N vc11) H → va_D A (xG L cid K N vc11) → va_S A s.heap H locs → lv_has ls 7 [(4, .int (iI a4_11)), (0, .ref p0.toNat), (1, .int (iI p1)), (2, .int (iI p2)), (3, .int (iI p3))] → W p l e ({ frames := 1, cells := 0, slots := 0, locals := 40 }) s m ([.ref p0.toNat, .int (iI p1), .int (iI p2), .int (iI p3)] : List Value).toArray below meth c H locs 0 0 Q (F0 m 11 ls []) := by
    intro n11
    induction n11 with
    | zero =>
      intro a4_11 vc11 H locs ls h_6 hm11 f_7 I_8 hP hD hS hl
      exfalso; omega
    | succ n11 ih11 =>
      intro a4_11 vc11 H locs ls h_9 hm11 f_10 I_11 hP hD hS hl
      refine lv_iload hx hb dX1_reachWith_11 (lv_at hl 0 rfl) ?_
      refine xr_if_le (tgt := 106) hx hb dX1_reachWith_13 (by decide) (by omega) (fun h_12 => ?_) (fun h_12 => ?_)
      · rw [← hQ]
        exact W.vret hx hb hr (fun t ht hW => ⟨⟨vc11, rfl, ⟨I_11, (fr_tr f_10 rfl fr_rf)⟩, by rw [ht]; exact hP, va_K.moved hW.alike hK, hD⟩, hS.F ht⟩) hS.2.2 dX1_reachWith_106
      · refine lv_iload hx hb dX1_reachWith_16 (lv_at hl 0 rfl) ?_
        refine lv_istore (lv' := [(5, .int (iI a4_11)), (4, .int (iI a4_11)), (0, .ref p0.toNat), (1, .int (iI p1)), (2, .int (iI p2)), (3, .int (iI p3))]) hx hb dX1_reachWith_18 hl (by decide) rfl (fun ls hl => ?_)
        have L20 : ∀ (n20 : Nat) (a5_20 : Int) (vc20 : Int → Int → Int) (H : Heap) (locs : List Loc) (ls : Array Slot), (0 ≤ a5_20 ∧ a5_20 ≤ 2147483647) → (0 < (n20 : Int) ∧ a5_20 < (n20 : Int)) → fr K [(60, (-1))] vc20 vc11 → xI L K N vc20 → va_P (dC, dI) vwCl (xG L cid K N vc20) H → va_D A (xG L cid K N vc20) → va_S A s.heap H locs → lv_has ls 7 [(5, .int (iI a5_20)), (4, .int (iI a4_11)), (0, .ref p0.toNat), (1, .int (iI p1)), (2, .int (iI p2)), (3, .int (iI p3))] → W p l e ({ frames := 1, cells := 0, slots := 0, locals := 40 }) s m ([.ref p0.toNat, .int (iI p1), .int (iI p2), .int (iI p3)] : List Value).toArray below meth c H locs 0 0 Q (F0 m 20 ls []) := by
          intro n20
          induction n20 with
          | zero =>
            intro a5_20 vc20 H locs ls h_13 hm20 f_14 I_15 hP hD hS hl
            exfalso; omega
          | succ n20 ih20 =>
            intro a5_20 vc20 H locs ls h_16 hm20 f_17 I_18 hP hD hS hl
            refine lv_iload hx hb dX1_reachWith_20 (lv_at hl 0 rfl) ?_
            have J100 : ∀ (H : Heap) (locs : List Loc) (ls : Array Slot), va_P (dC, dI) vwCl (xG L cid K N vc20) H → va_D A (xG L cid K N vc20) → va_S A s.heap H locs → lv_has ls 7 [(5, .int (iI a5_20)), (4, .int (iI a4_11)), (0, .ref p0.toNat), (1, .int (iI p1)), (2, .int (iI p2)), (3, .int (iI p3))] → W p l e ({ frames := 1, cells := 0, slots := 0, locals := 40 }) s m ([.ref p0.toNat, .int (iI p1), .int (iI p2), .int (iI p3)] : List Value).toArray below meth c H locs 0 0 Q (F0 m 100 ls []) := by
              intro H locs ls hP hD hS hl
              refine lv_iinc (v := iI (a4_11 + (-1))) (lv' := [(4, .int (iI (a4_11 + (-1)))), (5, .int (iI a5_20)), (0, .ref p0.toNat), (1, .int (iI p1)), (2, .int (iI p2)), (3, .int (iI p3))]) hx hb dX1_reachWith_100 hl (k := 1) rfl (iI_add _ _) (by decide) rfl (fun ls hl => ?_)
              refine lv_goto (tgt := 11) hx hb dX1_reachWith_103 (by decide) ?_
              exact ih11 (a4_11 + (-1)) vc20 H locs ls (by omega) (by omega) (fr_tr f_17 rfl (fr_tr f_10 rfl fr_rf)) I_18 hP hD hS (lv_sub hl [0, 2, 3, 4, 5] rfl)
            refine xr_if_le (tgt := 100) hx hb dX1_reachWith_22 (by decide) (by omega) (fun h_19 => ?_) (fun h_19 => ?_)
            · exact J100 H locs ls hP hD hS hl
            · refine lv_aload_n hx hb dX1_reachWith_25 rfl (lv_at hl 2 rfl) ?_
              have h_20 : ok L K (v p0 9) 60 := xf_1_9 hI q0
              have h_21 : N (v p0 9) = 128 := xn_60 hI h_20
              refine gx_RX1_33 (y := v p0 9) hx hb hj hown hK hP q0 ((xf_1_9 I_18 q0).1) (((fr_use q0 f_17 rfl)).trans (fr_use q0 f_10 rfl)) dX1_reachWith_26 ?_
              refine lv_iload hx hb dX1_reachWith_29 (lv_at hl 1 rfl) ?_
              have h_22 : 0 ≤ vc20 (v p0 9) a4_11 ∧ vc20 (v p0 9) a4_11 ≤ 1 := xe_60 I_18 h_20 (by omega)
              refine ax_60 (y := vc20 (v p0 9) a4_11) hx hb hK hP h_20 (by omega) (by omega) (by omega) rfl dX1_reachWith_31 ?_
              refine xr_if_ne (tgt := 100) hx hb dX1_reachWith_32 (by decide) (by omega) (fun h_23 => ?_) (fun h_23 => ?_)
              · exact J100 H locs ls hP hD hS hl
              · refine lv_iload hx hb dX1_reachWith_35 (lv_at hl 0 rfl) ?_
                refine lv_iload_n hx hb dX1_reachWith_37 rfl (lv_at hl 3 rfl) ?_
                refine lv_iconst (v := iI (-1)) hx hb dX1_reachWith_38 rfl ?_
                refine lv_ixor hx hb dX1_reachWith_39 ?_
                refine xr_any (fun z_24 h_25 => ?_)
                refine xr_andL hx hb (by omega) (by omega) dX1_reachWith_40 (fun z_26 h_27 => ?_)
                have J60 : ∀ (s0_60 : Int) (H : Heap) (locs : List Loc) (ls : Array Slot), (0 ≤ s0_60 ∧ s0_60 ≤ 1) → va_P (dC, dI) vwCl (xG L cid K N vc20) H → va_D A (xG L cid K N vc20) → va_S A s.heap H locs → lv_has ls 7 [(5, .int (iI a5_20)), (4, .int (iI a4_11)), (0, .ref p0.toNat), (1, .int (iI p1)), (2, .int (iI p2)), (3, .int (iI p3))] → W p l e ({ frames := 1, cells := 0, slots := 0, locals := 40 }) s m ([.ref p0.toNat, .int (iI p1), .int (iI p2), .int (iI p3)] : List Value).toArray below meth c H locs 0 0 Q (F0 m 60 ls [.int (iI s0_60)]) := by
                  intro s0_60 H locs ls h_28 hP hD hS hl
                  refine lv_istore (lv' := [(6, .int (iI s0_60)), (5, .int (iI a5_20)), (4, .int (iI a4_11)), (0, .ref p0.toNat), (1, .int (iI p1)), (2, .int (iI p2)), (3, .int (iI p3))]) hx hb dX1_reachWith_60 hl (by decide) rfl (fun ls hl => ?_)
                  refine lv_iload hx hb dX1_reachWith_62 (lv_at hl 0 rfl) ?_
                  have J88 : ∀ (vc88 : Int → Int → Int) (H : Heap) (locs : List Loc) (ls : Array Slot), fr K [(60, (-1))] vc88 vc20 → xI L K N vc88 → va_P (dC, dI) vwCl (xG L cid K N vc88) H → va_D A (xG L cid K N vc88) → va_S A s.heap H locs → lv_has ls 7 [(6, .int (iI s0_60)), (5, .int (iI a5_20)), (4, .int (iI a4_11)), (0, .ref p0.toNat), (1, .int (iI p1)), (2, .int (iI p2)), (3, .int (iI p3))] → W p l e ({ frames := 1, cells := 0, slots := 0, locals := 40 }) s m ([.ref p0.toNat, .int (iI p1), .int (iI p2), .int (iI p3)] : List Value).toArray below meth c H locs 0 0 Q (F0 m 88 ls []) := by
                    intro vc88 H locs ls f_29 I_30 hP hD hS hl
                    refine lv_iload hx hb dX1_reachWith_88 (lv_at hl 1 rfl) ?_
                    refine lv_iconst (v := iI 1) hx hb dX1_reachWith_90 rfl ?_
                    refine xr_sub hx hb dX1_reachWith_91 ?_
                    refine lv_iload hx hb dX1_reachWith_92 (lv_at hl 2 rfl) ?_
                    refine xr_andB hx hb (by omega) (by omega) (by omega) (by omega) dX1_reachWith_94 (fun z_31 h_32 => ?_)
                    refine lv_istore (lv' := [(5, .int (iI z_31)), (6, .int (iI s0_60)), (4, .int (iI a4_11)), (0, .ref p0.toNat), (1, .int (iI p1)), (2, .int (iI p2)), (3, .int (iI p3))]) hx hb dX1_reachWith_95 hl (by decide) rfl (fun ls hl => ?_)
                    refine lv_goto (tgt := 20) hx hb dX1_reachWith_97 (by decide) ?_
                    exact ih20 z_31 vc88 H locs ls (by omega) (by omega) (fr_tr f_29 rfl (fr_tr f_17 rfl fr_rf)) I_30 hP hD hS (lv_sub hl [0, 2, 3, 4, 5, 6] rfl)
                  refine xr_if_eq (tgt := 88) hx hb dX1_reachWith_64 (by decide) (by omega) (fun h_33 => ?_) (fun h_33 => ?_)
                  · exact J88 vc20 H locs ls fr_rf I_18 hP hD hS hl
                  · refine lv_aload_n hx hb dX1_reachWith_67 rfl (lv_at hl 3 rfl) ?_
                    refine gx_RX1_33 (y := v p0 9) hx hb hj hown hK hP q0 ((xf_1_9 I_18 q0).1) (((fr_use q0 f_17 rfl)).trans (fr_use q0 f_10 rfl)) dX1_reachWith_68 ?_
                    refine lv_iload hx hb dX1_reachWith_71 (lv_at hl 2 rfl) ?_
                    refine lv_iload hx hb dX1_reachWith_73 (lv_at hl 1 rfl) ?_
                    refine lv_ixor hx hb dX1_reachWith_75 ?_
                    refine xr_any (fun z_34 h_35 => ?_)
                    have h_36 : 0 ≤ vc20 (v p0 9) z_34 ∧ vc20 (v p0 9) z_34 ≤ 1 := xe_60 I_18 h_20 (by omega)
                    refine ax_60 (y := vc20 (v p0 9) z_34) hx hb hK hP h_20 (by omega) (by omega) (by omega) rfl dX1_reachWith_76 ?_
                    refine xr_if_eq (tgt := 88) hx hb dX1_reachWith_77 (by decide) (by omega) (fun h_37 => ?_) (fun h_37 => ?_)
                    · exact J88 vc20 H locs ls fr_rf I_18 hP hD hS hl
                    · refine lv_aload_n hx hb dX1_reachWith_80 rfl (lv_at hl 3 rfl) ?_
                      refine gx_RX1_33 (y := v p0 9) hx hb hj hown hK hP q0 ((xf_1_9 I_18 q0).1) (((fr_use q0 f_17 rfl)).trans (fr_use q0 f_10 rfl)) dX1_reachWith_81 ?_
                      refine lv_iload hx hb dX1_reachWith_84 (lv_at hl 2 rfl) ?_
                      refine lv_iconst (v := iI 1) hx hb dX1_reachWith_86 rfl ?_
                      refine sx_60 (y := 1) hx hb hK hP hD hS I_18 h_20 (by omega) (by omega) (by omega) ⟨by omega, by omega⟩ dX1_reachWith_87 (fun v_38 H locs f_39 e_40 o_41 I_42 hP hD hS => ?_)
                      exact J88 v_38 H locs ls (fr_tr f_39 rfl fr_rf) I_42 hP hD hS hl
                have J59 : ∀ (H : Heap) (locs : List Loc) (ls : Array Slot), va_P (dC, dI) vwCl (xG L cid K N vc20) H → va_D A (xG L cid K N vc20) → va_S A s.heap H locs → lv_has ls 7 [(5, .int (iI a5_20)), (4, .int (iI a4_11)), (0, .ref p0.toNat), (1, .int (iI p1)), (2, .int (iI p2)), (3, .int (iI p3))] → W p l e ({ frames := 1, cells := 0, slots := 0, locals := 40 }) s m ([.ref p0.toNat, .int (iI p1), .int (iI p2), .int (iI p3)] : List Value).toArray below meth c H locs 0 0 Q (F0 m 59 ls []) := by
                  intro H locs ls hP hD hS hl
                  refine lv_iconst (v := iI 0) hx hb dX1_reachWith_59 rfl ?_
                  exact J60 0 H locs ls (by omega) hP hD hS hl
                refine xr_if_ne (tgt := 59) hx hb dX1_reachWith_41 (by decide) (by omega) (fun h_43 => ?_) (fun h_43 => ?_)
                · exact J59 H locs ls hP hD hS hl
                · refine lv_aload_n hx hb dX1_reachWith_44 rfl (lv_at hl 2 rfl) ?_
                  have h_44 : ok L K (v p0 8) 59 := xf_1_8 hI q0
                  have h_45 : N (v p0 8) = 128 := xn_59 hI h_44
                  refine gx_RX1_30 (y := v p0 8) hx hb hj hown hK hP q0 ((xf_1_8 I_18 q0).1) (((fr_use q0 f_17 rfl)).trans (fr_use q0 f_10 rfl)) dX1_reachWith_45 ?_
                  refine lv_iload hx hb dX1_reachWith_48 (lv_at hl 0 rfl) ?_
                  have h_46 : (-2147483648) ≤ v (v p0 8) a5_20 ∧ v (v p0 8) a5_20 ≤ 2147483647 := xe_59 hI h_44 (by omega)
                  refine ax_59 (y := v (v p0 8) a5_20) hx hb hK hP h_44 (by omega) (by omega) (by omega) (((fr_use h_44 f_17 rfl)).trans (fr_use h_44 f_10 rfl)) dX1_reachWith_50 ?_
                  refine lv_iload_n hx hb dX1_reachWith_51 rfl (lv_at hl 4 rfl) ?_
                  refine xr_icmp_gt (tgt := 59) hx hb dX1_reachWith_52 (by decide) (by omega) (by omega) (fun h_47 => ?_) (fun h_47 => ?_)
                  · exact J59 H locs ls hP hD hS hl
                  · refine lv_iconst (v := iI 1) hx hb dX1_reachWith_55 rfl ?_
                    refine lv_goto (tgt := 60) hx hb dX1_reachWith_56 (by decide) ?_
                    exact J60 1 H locs ls (by omega) hP hD hS hl
        exact L20 (((a4_11 : Int)).toNat + 1) a4_11 vc11 H locs ls (by omega) (by omega) fr_rf I_11 hP hD hS hl
  exact L11 (((z_3 : Int)).toNat + 1) z_3 v H locs ls (by omega) (by omega) fr_rf hI hP hD hS hl
