set_option maxHeartbeats 2000000 in
set_option maxRecDepth 100000 in
theorem sX3_add (l : Launch) (dC : Nat → ClassId) (dI : Nat → Nat → Nat) (sz : Nat) (L : List Nat) (cid : Nat → ClassId) (K : Int → Nat) (N : Int → Int) (tW : Nat) (sK sV : Nat → Nat) (v : Int → Int → Int) (p0 : Int) (p1 : Int) (p2 : Int) (p3 : Int) (p4 : Int) (hI : xI L K N v) (q0 : ok L K p0 3) (q1 : rg p1) (q2 : rg p2) (q3 : rg p3) (q4 : rg p4) : Met l yX3_add (jk yX3_add cX3_add 5 none) ({ frames := 1, cells := 0, slots := 0, locals := 40 }) (va_Pc [.ref p0.toNat, .int (iI p1), .int (iI p2), .int (iI p3), .int (iI p4)] (xP (dC, dI) (xG L cid K N v) (xT cid) tW sK sV sz)) (va_Qv (fun (u : (Int → Int → Int)) => (xI L K N u) ∧ (fr K [(3, 5), (52, (-1))] u v)) (fun u t => va_P (dC, dI) vwCl (xG L cid K N u) t.heap ∧ va_K (dC, dI) vwCl (xT cid) t ∧ va_D (va_A (xG L cid K N v) sz) (xG L cid K N u)) (va_A (xG L cid K N v) sz)) 0 0 (va_A (xG L cid K N v) sz) := by
  refine Met.ofW (cc := cX3_add) (maxL := 5) (ret := none) (by decide) rfl ?_
  intro p e s m args below meth c s₁ B hml hv
  obtain ⟨rfl, ⟨hsz, hP, hK, hD0⟩, hX⟩ := hv
  have hx := B.exec
  have hb := B.bytes
  have hr := B.returns
  have hts := atoms_spec (ws := (jk yX3_add cX3_add 5 none)) B.pre
  have hj : ∀ w ∈ jw, w.before ([.ref p0.toNat, .int (iI p1), .int (iI p2), .int (iI p3), .int (iI p4)] : List Value).toArray s = true := fun w h => hts w (jm h)
  have hown : s.vm.findClass RX3 = some m.cls := findClass_of_methodNamed B.named
  subst hsz
  have hD := hD0.self (sz := s.heap.size)
  generalize hAe : (va_A (xG L cid K N v) s.heap.size) = A at hD hX ⊢
  have hA : ∀ q : Nat, s.heap.size ≤ q → A q := fun q h => by rw [← hAe]; exact Or.inr h
  have hS : va_S A s.heap s.heap [] := va_S.rf
  have hXa := hX
  have hP : va_P (dC, dI) vwCl (xG L cid K N v) s.heap := hP
  have hl := lv_entry ([.ref p0.toNat, .int (iI p1), .int (iI p2), .int (iI p3), .int (iI p4)]) (n := 5) (Nat.le_of_ble_eq_true rfl)
  rw [lg_entry_eq]
  generalize (lg_sl ([.ref p0.toNat, .int (iI p1), .int (iI p2), .int (iI p3), .int (iI p4)]) ++ List.replicate (5 - (lg_sl ([.ref p0.toNat, .int (iI p1), .int (iI p2), .int (iI p3), .int (iI p4)])).length) Slot.unset).toArray = ls at hl ⊢
  have hl : lv_has ls 5 [(0, .ref p0.toNat), (1, .int (iI p1)), (2, .int (iI p2)), (3, .int (iI p3)), (4, .int (iI p4))] := hl
  generalize hQ : MQ below (va_Qv (fun (u : (Int → Int → Int)) => (xI L K N u) ∧ (fr K [(3, 5), (52, (-1))] u v)) (fun u t => va_P (dC, dI) vwCl (xG L cid K N u) t.heap ∧ va_K (dC, dI) vwCl (xT cid) t ∧ va_D A (xG L cid K N u)) A) ([.ref p0.toNat, .int (iI p1), .int (iI p2), .int (iI p3), .int (iI p4)] : List Value).toArray s 0 0 A = Q
  suffices ST : ∀ (H : Heap) (locs : List Loc), va_P (dC, dI) vwCl (xG L cid K N v) H → va_S A s.heap H locs → W p l e ({ frames := 1, cells := 0, slots := 0, locals := 40 }) s m ([.ref p0.toNat, .int (iI p1), .int (iI p2), .int (iI p3), .int (iI p4)] : List Value).toArray below meth c H locs 0 0 Q (F0 m 0 ls []) from ST _ _ hP hS
  clear hP hS
  intro H locs hP hS
  refine lv_aload_n hx hb dX3_add_0 rfl (lv_at hl 0 rfl) ?_
  have h_1 : (-2147483648) ≤ v p0 5 ∧ v p0 5 ≤ 2147483647 := xf_3_5 hI q0
  refine gx_RX3_27 (y := v p0 5) hx hb hj hown hK hP q0 rfl dX3_add_1 ?_
  refine xr_if_lt (tgt := 86) hx hb dX3_add_4 (by decide) (by omega) (fun h_2 => ?_) (fun h_2 => ?_)
  · rw [← hQ]
    exact W.vret hx hb hr (fun t ht hW => ⟨⟨v, rfl, ⟨hI, fr_rf⟩, by rw [ht]; exact hP, va_K.moved hW.alike hK, hD⟩, hS.F ht⟩) hS.2.2 dX3_add_86
  · refine lv_aload_n hx hb dX3_add_7 rfl (lv_at hl 0 rfl) ?_
    refine gx_RX3_27 (y := v p0 5) hx hb hj hown hK hP q0 rfl dX3_add_8 ?_
    refine lv_bipush (v := iI 60) hx hb dX3_add_11 rfl ?_
    refine xr_icmp_ge (tgt := 86) hx hb dX3_add_13 (by decide) (by omega) (by omega) (fun h_3 => ?_) (fun h_3 => ?_)
    · rw [← hQ]
      exact W.vret hx hb hr (fun t ht hW => ⟨⟨v, rfl, ⟨hI, fr_rf⟩, by rw [ht]; exact hP, va_K.moved hW.alike hK, hD⟩, hS.F ht⟩) hS.2.2 dX3_add_86
    · refine lv_aload_n hx hb dX3_add_16 rfl (lv_at hl 0 rfl) ?_
      have h_4 : ok L K (v p0 0) 52 := xf_3_0 hI q0
      have h_5 : N (v p0 0) = 60 := xn_52 hI h_4
      refine gx_RX3_9 (y := v p0 0) hx hb hj hown hK hP q0 ((xf_3_0 hI q0).1) rfl dX3_add_17 ?_
      refine lv_aload_n hx hb dX3_add_20 rfl (lv_at hl 0 rfl) ?_
      refine gx_RX3_27 (y := v p0 5) hx hb hj hown hK hP q0 rfl dX3_add_21 ?_
      refine lv_iload_n hx hb dX3_add_24 rfl (lv_at hl 1 rfl) ?_
      refine sx_52 (y := p1) hx hb hK hP hD hS hI h_4 (by omega) (by omega) (by omega) ⟨by omega, by omega⟩ dX3_add_25 (fun v_6 H locs f_7 e_8 o_9 I_10 hP hD hS => ?_)
      refine lv_aload_n hx hb dX3_add_26 rfl (lv_at hl 0 rfl) ?_
      have h_11 : ok L K (v p0 1) 52 := xf_3_1 hI q0
      have h_12 : N (v p0 1) = 60 := xn_52 hI h_11
      refine gx_RX3_15 (y := v p0 1) hx hb hj hown hK hP q0 ((xf_3_1 I_10 q0).1) (fr_use q0 f_7 rfl) dX3_add_27 ?_
      refine lv_aload_n hx hb dX3_add_30 rfl (lv_at hl 0 rfl) ?_
      refine gx_RX3_27 (y := v p0 5) hx hb hj hown hK hP q0 (fr_use q0 f_7 rfl) dX3_add_31 ?_
      refine lv_iload_n hx hb dX3_add_34 rfl (lv_at hl 2 rfl) ?_
      refine sx_52 (y := p2) hx hb hK hP hD hS I_10 h_11 (by omega) (by omega) (by omega) ⟨by omega, by omega⟩ dX3_add_35 (fun v_13 H locs f_14 e_15 o_16 I_17 hP hD hS => ?_)
      refine lv_aload_n hx hb dX3_add_36 rfl (lv_at hl 0 rfl) ?_
      have h_18 : ok L K (v p0 2) 52 := xf_3_2 hI q0
      have h_19 : N (v p0 2) = 60 := xn_52 hI h_18
      refine gx_RX3_18 (y := v p0 2) hx hb hj hown hK hP q0 ((xf_3_2 I_17 q0).1) (((fr_use q0 f_14 rfl)).trans (fr_use q0 f_7 rfl)) dX3_add_37 ?_
      refine lv_aload_n hx hb dX3_add_40 rfl (lv_at hl 0 rfl) ?_
      refine gx_RX3_27 (y := v p0 5) hx hb hj hown hK hP q0 (((fr_use q0 f_14 rfl)).trans (fr_use q0 f_7 rfl)) dX3_add_41 ?_
      refine lv_iload_n hx hb dX3_add_44 rfl (lv_at hl 3 rfl) ?_
      refine sx_52 (y := p3) hx hb hK hP hD hS I_17 h_18 (by omega) (by omega) (by omega) ⟨by omega, by omega⟩ dX3_add_45 (fun v_20 H locs f_21 e_22 o_23 I_24 hP hD hS => ?_)
      refine lv_aload_n hx hb dX3_add_46 rfl (lv_at hl 0 rfl) ?_
      have h_25 : ok L K (v p0 3) 52 := xf_3_3 hI q0
      have h_26 : N (v p0 3) = 60 := xn_52 hI h_25
      refine gx_RX3_21 (y := v p0 3) hx hb hj hown hK hP q0 ((xf_3_3 I_24 q0).1) (((fr_use q0 f_21 rfl)).trans (((fr_use q0 f_14 rfl)).trans (fr_use q0 f_7 rfl))) dX3_add_47 ?_
      refine lv_aload_n hx hb dX3_add_50 rfl (lv_at hl 0 rfl) ?_
      refine gx_RX3_27 (y := v p0 5) hx hb hj hown hK hP q0 (((fr_use q0 f_21 rfl)).trans (((fr_use q0 f_14 rfl)).trans (fr_use q0 f_7 rfl))) dX3_add_51 ?_
      refine lv_iload hx hb dX3_add_54 (lv_at hl 4 rfl) ?_
      refine sx_52 (y := p4) hx hb hK hP hD hS I_24 h_25 (by omega) (by omega) (by omega) ⟨by omega, by omega⟩ dX3_add_56 (fun v_27 H locs f_28 e_29 o_30 I_31 hP hD hS => ?_)
      refine lv_aload_n hx hb dX3_add_57 rfl (lv_at hl 0 rfl) ?_
      have h_32 : ok L K (v p0 4) 52 := xf_3_4 hI q0
      have h_33 : N (v p0 4) = 60 := xn_52 hI h_32
      refine gx_RX3_24 (y := v p0 4) hx hb hj hown hK hP q0 ((xf_3_4 I_31 q0).1) (((fr_use q0 f_28 rfl)).trans (((fr_use q0 f_21 rfl)).trans (((fr_use q0 f_14 rfl)).trans (fr_use q0 f_7 rfl)))) dX3_add_58 ?_
      refine lv_aload_n hx hb dX3_add_61 rfl (lv_at hl 0 rfl) ?_
      refine gx_RX3_27 (y := v p0 5) hx hb hj hown hK hP q0 (((fr_use q0 f_28 rfl)).trans (((fr_use q0 f_21 rfl)).trans (((fr_use q0 f_14 rfl)).trans (fr_use q0 f_7 rfl)))) dX3_add_62 ?_
      refine lv_iload_n hx hb dX3_add_65 rfl (lv_at hl 3 rfl) ?_
      refine lv_iload hx hb dX3_add_66 (lv_at hl 4 rfl) ?_
      refine lv_iload_n hx hb dX3_add_68 rfl (lv_at hl 2 rfl) ?_
      refine va_mmin hx hb (by rw [hml]; exact hl.1.symm) hown (hj _ m_852) (hj _ m_765) (hj _ m_762) (hj _ m_766) (Nat.le_of_ble_eq_true rfl) (Nat.le_of_ble_eq_true rfl) (Nat.le_of_ble_eq_true rfl) (Nat.le_of_ble_eq_true rfl) dX3_add_69 ?_
      refine xm_min (by omega) (by omega) (fun z_34 h_35 => ?_)
      refine va_mmax hx hb (by rw [hml]; exact hl.1.symm) hown (hj _ m_910) (hj _ m_761) (hj _ m_762) (hj _ m_763) (Nat.le_of_ble_eq_true rfl) (Nat.le_of_ble_eq_true rfl) (Nat.le_of_ble_eq_true rfl) (Nat.le_of_ble_eq_true rfl) dX3_add_72 ?_
      refine xm_max (by omega) (by omega) (fun z_36 h_37 => ?_)
      refine sx_52 (y := z_36) hx hb hK hP hD hS I_31 h_32 (by omega) (by omega) (by omega) ⟨by omega, by omega⟩ dX3_add_75 (fun v_38 H locs f_39 e_40 o_41 I_42 hP hD hS => ?_)
      refine lv_aload_n hx hb dX3_add_76 rfl (lv_at hl 0 rfl) ?_
      refine lv_dup hx hb dX3_add_77 rfl ?_
      refine gx_RX3_27 (y := v p0 5) hx hb hj hown hK hP q0 (((fr_use q0 f_39 rfl)).trans (((fr_use q0 f_28 rfl)).trans (((fr_use q0 f_21 rfl)).trans (((fr_use q0 f_14 rfl)).trans (fr_use q0 f_7 rfl))))) dX3_add_78 ?_
      refine lv_iconst (v := iI 1) hx hb dX3_add_81 rfl ?_
      refine xr_add hx hb dX3_add_82 ?_
      refine xr_kept (fun z_43 h_44 h_45 => ?_)
      refine px_RX3_27 (y := z_43) hx hb hj hown hK hP hD hS I_42 q0 ⟨by omega, by omega⟩ dX3_add_83 (fun v_46 H locs f_47 e_48 o_49 I_50 hP hD hS => ?_)
      rw [← hQ]
      exact W.vret hx hb hr (fun t ht hW => ⟨⟨v_46, rfl, ⟨I_50, (fr_tr f_47 rfl (fr_tr f_39 rfl (fr_tr f_28 rfl (fr_tr f_21 rfl (fr_tr f_14 rfl (fr_tr f_7 rfl fr_rf))))))⟩, by rw [ht]; exact hP, va_K.moved hW.alike hK, hD⟩, hS.F ht⟩) hS.2.2 dX3_add_86
set_option maxHeartbeats 2000000 in
set_option maxRecDepth 100000 in
theorem sX3_fitTo (l : Launch) (dC : Nat → ClassId) (dI : Nat → Nat → Nat) (sz : Nat) (L : List Nat) (cid : Nat → ClassId) (K : Int → Nat) (N : Int → Int) (tW : Nat) (sK sV : Nat → Nat) (v : Int → Int → Int) (p0 : Int) (p1 : Int) (hI : xI L K N v) (q0 : ok L K p0 3) (q1 : rg p1) : Met l yX3_fitTo (jk yX3_fitTo cX3_fitTo 9 (some .boolean)) ({ frames := 2, cells := 0, slots := 0, locals := 66 }) (va_Pc [.ref p0.toNat, .int (iI p1)] (xP (dC, dI) (xG L cid K N v) (xT cid) tW sK sV sz)) (va_Qi (fun (r : Int32) (u : (Int → Int → Int)) => ∃ z : Int, r = iI z ∧ (xI L K N u) ∧ (fr K [(52, (-1))] u v) ∧ (0 ≤ z ∧ z ≤ 1)) (fun u t => va_P (dC, dI) vwCl (xG L cid K N u) t.heap ∧ va_K (dC, dI) vwCl (xT cid) t ∧ va_D (va_A (xG L cid K N v) sz) (xG L cid K N u)) (va_A (xG L cid K N v) sz)) 0 0 (va_A (xG L cid K N v) sz) := by
  refine Met.ofW (cc := cX3_fitTo) (maxL := 9) (ret := (some .boolean)) (by decide) rfl ?_
  intro p e s m args below meth c s₁ B hml hv
  obtain ⟨rfl, ⟨hsz, hP, hK, hD0⟩, hX⟩ := hv
  have hx := B.exec
  have hb := B.bytes
  have hr := B.returns
  have hts := atoms_spec (ws := (jk yX3_fitTo cX3_fitTo 9 (some .boolean))) B.pre
  have hj : ∀ w ∈ jw, w.before ([.ref p0.toNat, .int (iI p1)] : List Value).toArray s = true := fun w h => hts w (jm h)
  have hown : s.vm.findClass RX3 = some m.cls := findClass_of_methodNamed B.named
  subst hsz
  have hD := hD0.self (sz := s.heap.size)
  generalize hAe : (va_A (xG L cid K N v) s.heap.size) = A at hD hX ⊢
  have hA : ∀ q : Nat, s.heap.size ≤ q → A q := fun q h => by rw [← hAe]; exact Or.inr h
  have hS : va_S A s.heap s.heap [] := va_S.rf
  have hXa := hX
  have hP : va_P (dC, dI) vwCl (xG L cid K N v) s.heap := hP
  have hl := lv_entry ([.ref p0.toNat, .int (iI p1)]) (n := 9) (Nat.le_of_ble_eq_true rfl)
  rw [lg_entry_eq]
  generalize (lg_sl ([.ref p0.toNat, .int (iI p1)]) ++ List.replicate (9 - (lg_sl ([.ref p0.toNat, .int (iI p1)])).length) Slot.unset).toArray = ls at hl ⊢
  have hl : lv_has ls 9 [(0, .ref p0.toNat), (1, .int (iI p1))] := hl
  generalize hQ : MQ below (va_Qi (fun (r : Int32) (u : (Int → Int → Int)) => ∃ z : Int, r = iI z ∧ (xI L K N u) ∧ (fr K [(52, (-1))] u v) ∧ (0 ≤ z ∧ z ≤ 1)) (fun u t => va_P (dC, dI) vwCl (xG L cid K N u) t.heap ∧ va_K (dC, dI) vwCl (xT cid) t ∧ va_D A (xG L cid K N u)) A) ([.ref p0.toNat, .int (iI p1)] : List Value).toArray s 0 0 A = Q
  suffices ST : ∀ (H : Heap) (locs : List Loc), va_P (dC, dI) vwCl (xG L cid K N v) H → va_S A s.heap H locs → W p l e ({ frames := 2, cells := 0, slots := 0, locals := 66 }) s m ([.ref p0.toNat, .int (iI p1)] : List Value).toArray below meth c H locs 0 0 Q (F0 m 0 ls []) from ST _ _ hP hS
  clear hP hS
  intro H locs hP hS
  refine lv_aload_n hx hb dX3_fitTo_0 rfl (lv_at hl 0 rfl) ?_
  have h_1 : (-2147483648) ≤ v p0 6 ∧ v p0 6 ≤ 2147483647 := xf_3_6 hI q0
  refine gx_RX3_31 (y := v p0 6) hx hb hj hown hK hP q0 rfl dX3_fitTo_1 ?_
  refine lv_aload_n hx hb dX3_fitTo_4 rfl (lv_at hl 0 rfl) ?_
  refine lv_aload_n hx hb dX3_fitTo_5 rfl (lv_at hl 0 rfl) ?_
  have h_2 : ok L K (v p0 2) 52 := xf_3_2 hI q0
  have h_3 : N (v p0 2) = 60 := xn_52 hI h_2
  refine gx_RX3_18 (y := v p0 2) hx hb hj hown hK hP q0 ((xf_3_2 hI q0).1) rfl dX3_fitTo_6 ?_
  refine jc_i (va_runV (As := [.ref (v p0 2).toNat]) (rest := [.int (iI (v p0 6))]) ⟨hx, hb, hml, hown, hts⟩ (sX3_sumOf l dC dI _ L cid K N tW sK sV v p0 (v p0 2) hI q0 h_2) (cwV 1 hts (jgoodV m_911 m_912 m_913 m_914 m_915) rfl rfl rfl (by decide +kernel) ⟨(Nat.le_of_ble_eq_true rfl), (Nat.le_of_ble_eq_true rfl)⟩) ⟨xP_blind, xrecv hK hP q0 rfl rfl, fun U hU hW => ⟨rfl, xP_of hU hW hP hK hD hX hS (fun _ h => h) hA⟩⟩ rfl rfl hl.1 rfl (lv_room (Nat.le_of_ble_eq_true rfl)) dX3_fitTo_9 ⟨(Nat.le_of_ble_eq_true rfl), (Nat.le_of_ble_eq_true rfl)⟩) hP hS hA (fun r_4 H locs w_5 hP hS => ?_)
  obtain ⟨z_6, rfl, h_7⟩ := w_5
  refine xr_add hx hb dX3_fitTo_12 ?_
  refine xr_kept (fun z_8 h_9 h_10 => ?_)
  refine lv_istore_n (i := 2) (lv' := [(2, .int (iI z_8)), (0, .ref p0.toNat), (1, .int (iI p1))]) hx hb dX3_fitTo_13 rfl hl (by decide) rfl (fun ls hl => ?_)
  refine lv_aload_n hx hb dX3_fitTo_14 rfl (lv_at hl 1 rfl) ?_
  refine gx_RX3_31 (y := v p0 6) hx hb hj hown hK hP q0 rfl dX3_fitTo_15 ?_
  refine lv_aload_n hx hb dX3_fitTo_18 rfl (lv_at hl 1 rfl) ?_
  refine lv_aload_n hx hb dX3_fitTo_19 rfl (lv_at hl 1 rfl) ?_
  have h_11 : ok L K (v p0 3) 52 := xf_3_3 hI q0
  have h_12 : N (v p0 3) = 60 := xn_52 hI h_11
  refine gx_RX3_21 (y := v p0 3) hx hb hj hown hK hP q0 ((xf_3_3 hI q0).1) rfl dX3_fitTo_20 ?_
  refine jc_i (va_runV (As := [.ref (v p0 3).toNat]) (rest := [.int (iI (v p0 6))]) ⟨hx, hb, hml, hown, hts⟩ (sX3_sumOf l dC dI _ L cid K N tW sK sV v p0 (v p0 3) hI q0 h_11) (cwV 1 hts (jgoodV m_911 m_912 m_913 m_914 m_915) rfl rfl rfl (by decide +kernel) ⟨(Nat.le_of_ble_eq_true rfl), (Nat.le_of_ble_eq_true rfl)⟩) ⟨xP_blind, xrecv hK hP q0 rfl rfl, fun U hU hW => ⟨rfl, xP_of hU hW hP hK hD hX hS (fun _ h => h) hA⟩⟩ rfl rfl hl.1 rfl (lv_room (Nat.le_of_ble_eq_true rfl)) dX3_fitTo_23 ⟨(Nat.le_of_ble_eq_true rfl), (Nat.le_of_ble_eq_true rfl)⟩) hP hS hA (fun r_13 H locs w_14 hP hS => ?_)
  obtain ⟨z_15, rfl, h_16⟩ := w_14
  refine xr_add hx hb dX3_fitTo_26 ?_
  refine xr_kept (fun z_17 h_18 h_19 => ?_)
  refine lv_istore_n (i := 3) (lv' := [(3, .int (iI z_17)), (2, .int (iI z_8)), (0, .ref p0.toNat), (1, .int (iI p1))]) hx hb dX3_fitTo_27 rfl hl (by decide) rfl (fun ls hl => ?_)
  refine lv_aload_n hx hb dX3_fitTo_28 rfl (lv_at hl 2 rfl) ?_
  refine gx_RX3_31 (y := v p0 6) hx hb hj hown hK hP q0 rfl dX3_fitTo_29 ?_
  refine lv_aload_n hx hb dX3_fitTo_32 rfl (lv_at hl 2 rfl) ?_
  refine lv_aload_n hx hb dX3_fitTo_33 rfl (lv_at hl 2 rfl) ?_
  have h_20 : ok L K (v p0 4) 52 := xf_3_4 hI q0
  have h_21 : N (v p0 4) = 60 := xn_52 hI h_20
  refine gx_RX3_24 (y := v p0 4) hx hb hj hown hK hP q0 ((xf_3_4 hI q0).1) rfl dX3_fitTo_34 ?_
  refine jc_i (va_runV (As := [.ref (v p0 4).toNat]) (rest := [.int (iI (v p0 6))]) ⟨hx, hb, hml, hown, hts⟩ (sX3_sumOf l dC dI _ L cid K N tW sK sV v p0 (v p0 4) hI q0 h_20) (cwV 1 hts (jgoodV m_911 m_912 m_913 m_914 m_915) rfl rfl rfl (by decide +kernel) ⟨(Nat.le_of_ble_eq_true rfl), (Nat.le_of_ble_eq_true rfl)⟩) ⟨xP_blind, xrecv hK hP q0 rfl rfl, fun U hU hW => ⟨rfl, xP_of hU hW hP hK hD hX hS (fun _ h => h) hA⟩⟩ rfl rfl hl.1 rfl (lv_room (Nat.le_of_ble_eq_true rfl)) dX3_fitTo_37 ⟨(Nat.le_of_ble_eq_true rfl), (Nat.le_of_ble_eq_true rfl)⟩) hP hS hA (fun r_22 H locs w_23 hP hS => ?_)
  obtain ⟨z_24, rfl, h_25⟩ := w_23
  refine xr_add hx hb dX3_fitTo_40 ?_
  refine xr_kept (fun z_26 h_27 h_28 => ?_)
  refine lv_istore (i := 4) (lv' := [(4, .int (iI z_26)), (3, .int (iI z_17)), (2, .int (iI z_8)), (0, .ref p0.toNat), (1, .int (iI p1))]) hx hb dX3_fitTo_41 hl (by decide) rfl (fun ls hl => ?_)
  refine lv_iload_n hx hb dX3_fitTo_43 rfl (lv_at hl 4 rfl) ?_
  have J55 : ∀ (s0_55 : Int) (H : Heap) (locs : List Loc) (ls : Array Slot), ((-2147483648) ≤ s0_55 ∧ s0_55 ≤ 2147483647) → va_P (dC, dI) vwCl (xG L cid K N v) H → va_D A (xG L cid K N v) → va_S A s.heap H locs → lv_has ls 9 [(4, .int (iI z_26)), (3, .int (iI z_17)), (2, .int (iI z_8)), (0, .ref p0.toNat), (1, .int (iI p1))] → W p l e ({ frames := 2, cells := 0, slots := 0, locals := 66 }) s m ([.ref p0.toNat, .int (iI p1)] : List Value).toArray below meth c H locs 0 0 Q (F0 m 55 ls [.int (iI s0_55)]) := by
    intro s0_55 H locs ls h_29 hP hD hS hl
    refine lv_istore (i := 5) (lv' := [(5, .int (iI s0_55)), (4, .int (iI z_26)), (3, .int (iI z_17)), (2, .int (iI z_8)), (0, .ref p0.toNat), (1, .int (iI p1))]) hx hb dX3_fitTo_55 hl (by decide) rfl (fun ls hl => ?_)
    refine lv_iload hx hb dX3_fitTo_57 (lv_at hl 0 rfl) ?_
    refine xr_if_ne (tgt := 64) hx hb dX3_fitTo_59 (by decide) (by omega) (fun h_30 => ?_) (fun h_30 => ?_)
    · refine lv_iload_n hx hb dX3_fitTo_64 rfl (lv_at hl 5 rfl) ?_
      refine lv_iload hx hb dX3_fitTo_65 (lv_at hl 0 rfl) ?_
      refine xr_sub hx hb dX3_fitTo_67 ?_
      refine xr_kept (fun z_31 h_32 h_33 => ?_)
      refine lv_istore (i := 6) (lv' := [(6, .int (iI z_31)), (5, .int (iI s0_55)), (4, .int (iI z_26)), (3, .int (iI z_17)), (2, .int (iI z_8)), (0, .ref p0.toNat), (1, .int (iI p1))]) hx hb dX3_fitTo_68 hl (by decide) rfl (fun ls hl => ?_)
      refine lv_iload hx hb dX3_fitTo_70 (lv_at hl 2 rfl) ?_
      refine lv_iload hx hb dX3_fitTo_72 (lv_at hl 1 rfl) ?_
      refine xr_sub hx hb dX3_fitTo_74 ?_
      refine xr_kept (fun z_34 h_35 h_36 => ?_)
      refine lv_iload_n hx hb dX3_fitTo_75 rfl (lv_at hl 4 rfl) ?_
      have J84 : ∀ (s0_84 : Int) (H : Heap) (locs : List Loc) (ls : Array Slot), (0 ≤ s0_84 ∧ s0_84 ≤ 1) → va_P (dC, dI) vwCl (xG L cid K N v) H → va_D A (xG L cid K N v) → va_S A s.heap H locs → lv_has ls 9 [(6, .int (iI z_31)), (5, .int (iI s0_55)), (4, .int (iI z_26)), (3, .int (iI z_17)), (2, .int (iI z_8)), (0, .ref p0.toNat), (1, .int (iI p1))] → W p l e ({ frames := 2, cells := 0, slots := 0, locals := 66 }) s m ([.ref p0.toNat, .int (iI p1)] : List Value).toArray below meth c H locs 0 0 Q (F0 m 84 ls [.int (iI s0_84)]) := by
        intro s0_84 H locs ls h_37 hP hD hS hl
        refine lv_istore (i := 7) (lv' := [(7, .int (iI s0_84)), (6, .int (iI z_31)), (5, .int (iI s0_55)), (4, .int (iI z_26)), (3, .int (iI z_17)), (2, .int (iI z_8)), (0, .ref p0.toNat), (1, .int (iI p1))]) hx hb dX3_fitTo_84 hl (by decide) rfl (fun ls hl => ?_)
        refine lv_iload hx hb dX3_fitTo_86 (lv_at hl 3 rfl) ?_
        refine lv_iload hx hb dX3_fitTo_88 (lv_at hl 1 rfl) ?_
        refine xr_add hx hb dX3_fitTo_90 ?_
        refine xr_kept (fun z_38 h_39 h_40 => ?_)
        refine lv_iload_n hx hb dX3_fitTo_91 rfl (lv_at hl 4 rfl) ?_
        have J100 : ∀ (s0_100 : Int) (H : Heap) (locs : List Loc) (ls : Array Slot), (0 ≤ s0_100 ∧ s0_100 ≤ 1) → va_P (dC, dI) vwCl (xG L cid K N v) H → va_D A (xG L cid K N v) → va_S A s.heap H locs → lv_has ls 9 [(7, .int (iI s0_84)), (6, .int (iI z_31)), (5, .int (iI s0_55)), (4, .int (iI z_26)), (3, .int (iI z_17)), (2, .int (iI z_8)), (0, .ref p0.toNat), (1, .int (iI p1))] → W p l e ({ frames := 2, cells := 0, slots := 0, locals := 66 }) s m ([.ref p0.toNat, .int (iI p1)] : List Value).toArray below meth c H locs 0 0 Q (F0 m 100 ls [.int (iI s0_100)]) := by
          intro s0_100 H locs ls h_41 hP hD hS hl
          refine lv_istore (i := 8) (lv' := [(8, .int (iI s0_100)), (7, .int (iI s0_84)), (6, .int (iI z_31)), (5, .int (iI s0_55)), (4, .int (iI z_26)), (3, .int (iI z_17)), (2, .int (iI z_8)), (0, .ref p0.toNat), (1, .int (iI p1))]) hx hb dX3_fitTo_100 hl (by decide) rfl (fun ls hl => ?_)
          refine lv_iload hx hb dX3_fitTo_102 (lv_at hl 1 rfl) ?_
          have J147 : ∀ (vc147 : Int → Int → Int) (H : Heap) (locs : List Loc) (ls : Array Slot), fr K [(52, (-1))] vc147 v → xI L K N vc147 → va_P (dC, dI) vwCl (xG L cid K N vc147) H → va_D A (xG L cid K N vc147) → va_S A s.heap H locs → lv_has ls 9 [(8, .int (iI s0_100)), (7, .int (iI s0_84)), (6, .int (iI z_31)), (5, .int (iI s0_55)), (4, .int (iI z_26)), (3, .int (iI z_17)), (2, .int (iI z_8)), (0, .ref p0.toNat), (1, .int (iI p1))] → W p l e ({ frames := 2, cells := 0, slots := 0, locals := 66 }) s m ([.ref p0.toNat, .int (iI p1)] : List Value).toArray below meth c H locs 0 0 Q (F0 m 147 ls []) := by
            intro vc147 H locs ls f_42 I_43 hP hD hS hl
            refine lv_iload hx hb dX3_fitTo_147 (lv_at hl 1 rfl) ?_
            refine xr_if_ne (tgt := 157) hx hb dX3_fitTo_149 (by decide) (by omega) (fun h_44 => ?_) (fun h_44 => ?_)
            · refine lv_iconst (v := iI 1) hx hb dX3_fitTo_157 rfl ?_
              refine lv_goto (tgt := 162) hx hb dX3_fitTo_158 (by decide) ?_
              rw [← hQ]
              exact W.zret (v := iI 1) (ty := .boolean) hx hb hr (nb_bool (by omega) (by omega)) (fun t ht hW => ⟨⟨iI 1, vc147, rfl, ⟨1, rfl, I_43, (fr_tr f_42 rfl fr_rf), by omega⟩, by rw [ht]; exact hP, va_K.moved hW.alike hK, hD⟩, hS.F ht⟩) hS.2.2 dX3_fitTo_162
            · refine lv_iload hx hb dX3_fitTo_152 (lv_at hl 0 rfl) ?_
              refine xr_if_eq (tgt := 161) hx hb dX3_fitTo_154 (by decide) (by omega) (fun h_45 => ?_) (fun h_45 => ?_)
              · refine lv_iconst (v := iI 0) hx hb dX3_fitTo_161 rfl ?_
                rw [← hQ]
                exact W.zret (v := iI 0) (ty := .boolean) hx hb hr (nb_bool (by omega) (by omega)) (fun t ht hW => ⟨⟨iI 0, vc147, rfl, ⟨0, rfl, I_43, (fr_tr f_42 rfl fr_rf), by omega⟩, by rw [ht]; exact hP, va_K.moved hW.alike hK, hD⟩, hS.F ht⟩) hS.2.2 dX3_fitTo_162
              · refine lv_iconst (v := iI 1) hx hb dX3_fitTo_157 rfl ?_
                refine lv_goto (tgt := 162) hx hb dX3_fitTo_158 (by decide) ?_
                rw [← hQ]
                exact W.zret (v := iI 1) (ty := .boolean) hx hb hr (nb_bool (by omega) (by omega)) (fun t ht hW => ⟨⟨iI 1, vc147, rfl, ⟨1, rfl, I_43, (fr_tr f_42 rfl fr_rf), by omega⟩, by rw [ht]; exact hP, va_K.moved hW.alike hK, hD⟩, hS.F ht⟩) hS.2.2 dX3_fitTo_162
          have J132 : ∀ (H : Heap) (locs : List Loc) (ls : Array Slot), va_P (dC, dI) vwCl (xG L cid K N v) H → va_D A (xG L cid K N v) → va_S A s.heap H locs → lv_has ls 9 [(8, .int (iI s0_100)), (7, .int (iI s0_84)), (6, .int (iI z_31)), (5, .int (iI s0_55)), (4, .int (iI z_26)), (3, .int (iI z_17)), (2, .int (iI z_8)), (0, .ref p0.toNat), (1, .int (iI p1))] → W p l e ({ frames := 2, cells := 0, slots := 0, locals := 66 }) s m ([.ref p0.toNat, .int (iI p1)] : List Value).toArray below meth c H locs 0 0 Q (F0 m 132 ls []) := by
            intro H locs ls hP hD hS hl
            refine lv_iload hx hb dX3_fitTo_132 (lv_at hl 0 rfl) ?_
            refine xr_if_eq (tgt := 147) hx hb dX3_fitTo_134 (by decide) (by omega) (fun h_46 => ?_) (fun h_46 => ?_)
            · exact J147 v H locs ls fr_rf hI hP hD hS hl
            · refine lv_aload_n hx hb dX3_fitTo_137 rfl (lv_at hl 7 rfl) ?_
              refine lv_aload_n hx hb dX3_fitTo_138 rfl (lv_at hl 7 rfl) ?_
              refine gx_RX3_21 (y := v p0 3) hx hb hj hown hK hP q0 ((xf_3_3 hI q0).1) rfl dX3_fitTo_139 ?_
              refine lv_iload hx hb dX3_fitTo_142 (lv_at hl 2 rfl) ?_
              refine jcg_v (va_runV (As := [.ref (v p0 3).toNat, .int (iI z_31)]) (rest := []) ⟨hx, hb, hml, hown, hts⟩ (sX3_shift l dC dI _ L cid K N tW sK sV v p0 (v p0 3) z_31 hI q0 h_11 (by omega)) (cwV 2 hts (jgoodV m_916 m_917 m_918 m_914 m_919) rfl rfl rfl (by decide +kernel) ⟨(Nat.le_of_ble_eq_true rfl), (Nat.le_of_ble_eq_true rfl)⟩) ⟨xP_blind, xrecv hK hP q0 rfl rfl, fun U hU hW => ⟨rfl, xP_of hU hW hP hK hD hX hS (fun _ h => h) hA⟩⟩ rfl rfl hl.1 rfl (lv_room (Nat.le_of_ble_eq_true rfl)) dX3_fitTo_144 ⟨(Nat.le_of_ble_eq_true rfl), (Nat.le_of_ble_eq_true rfl)⟩) hD hS hA (fun v_50 H locs w_48 hP hK hD hS => ?_)
              obtain ⟨I_52, f_51⟩ := w_48
              have hP : va_P (dC, dI) vwCl (xG L cid K N v_50) H := hP
              have hD : va_D A (xG L cid K N v_50) := hD
              exact J147 v_50 H locs ls (fr_tr f_51 rfl fr_rf) I_52 hP hD hS hl
          refine xr_if_eq (tgt := 132) hx hb dX3_fitTo_104 (by decide) (by omega) (fun h_53 => ?_) (fun h_53 => ?_)
          · exact J132 H locs ls hP hD hS hl
          · refine lv_iload hx hb dX3_fitTo_107 (lv_at hl 0 rfl) ?_
            have J119 : ∀ (H : Heap) (locs : List Loc) (ls : Array Slot), va_P (dC, dI) vwCl (xG L cid K N v) H → va_D A (xG L cid K N v) → va_S A s.heap H locs → lv_has ls 9 [(8, .int (iI s0_100)), (7, .int (iI s0_84)), (6, .int (iI z_31)), (5, .int (iI s0_55)), (4, .int (iI z_26)), (3, .int (iI z_17)), (2, .int (iI z_8)), (0, .ref p0.toNat), (1, .int (iI p1))] → W p l e ({ frames := 2, cells := 0, slots := 0, locals := 66 }) s m ([.ref p0.toNat, .int (iI p1)] : List Value).toArray below meth c H locs 0 0 Q (F0 m 119 ls []) := by
              intro H locs ls hP hD hS hl
              refine lv_aload_n hx hb dX3_fitTo_119 rfl (lv_at hl 7 rfl) ?_
              refine lv_aload_n hx hb dX3_fitTo_120 rfl (lv_at hl 7 rfl) ?_
              refine gx_RX3_18 (y := v p0 2) hx hb hj hown hK hP q0 ((xf_3_2 hI q0).1) rfl dX3_fitTo_121 ?_
              refine lv_iload hx hb dX3_fitTo_124 (lv_at hl 3 rfl) ?_
              refine jcg_v (va_runV (As := [.ref (v p0 2).toNat, .int (iI s0_55)]) (rest := []) ⟨hx, hb, hml, hown, hts⟩ (sX3_shift l dC dI _ L cid K N tW sK sV v p0 (v p0 2) s0_55 hI q0 h_2 (by omega)) (cwV 2 hts (jgoodV m_916 m_917 m_918 m_914 m_919) rfl rfl rfl (by decide +kernel) ⟨(Nat.le_of_ble_eq_true rfl), (Nat.le_of_ble_eq_true rfl)⟩) ⟨xP_blind, xrecv hK hP q0 rfl rfl, fun U hU hW => ⟨rfl, xP_of hU hW hP hK hD hX hS (fun _ h => h) hA⟩⟩ rfl rfl hl.1 rfl (lv_room (Nat.le_of_ble_eq_true rfl)) dX3_fitTo_126 ⟨(Nat.le_of_ble_eq_true rfl), (Nat.le_of_ble_eq_true rfl)⟩) hD hS hA (fun v_57 H locs w_55 hP hK hD hS => ?_)
              obtain ⟨I_59, f_58⟩ := w_55
              have hP : va_P (dC, dI) vwCl (xG L cid K N v_57) H := hP
              have hD : va_D A (xG L cid K N v_57) := hD
              refine lv_goto (tgt := 147) hx hb dX3_fitTo_129 (by decide) ?_
              exact J147 v_57 H locs ls (fr_tr f_58 rfl fr_rf) I_59 hP hD hS hl
            refine xr_if_eq (tgt := 119) hx hb dX3_fitTo_109 (by decide) (by omega) (fun h_60 => ?_) (fun h_60 => ?_)
            · exact J119 H locs ls hP hD hS hl
            · refine lv_iload hx hb dX3_fitTo_112 (lv_at hl 3 rfl) ?_
              refine lv_iload hx hb dX3_fitTo_114 (lv_at hl 2 rfl) ?_
              refine xr_icmp_gt (tgt := 132) hx hb dX3_fitTo_116 (by decide) (by omega) (by omega) (fun h_61 => ?_) (fun h_61 => ?_)
              · exact J132 H locs ls hP hD hS hl
              · exact J119 H locs ls hP hD hS hl
        refine xr_icmp_gt (tgt := 99) hx hb dX3_fitTo_92 (by decide) (by omega) (by omega) (fun h_62 => ?_) (fun h_62 => ?_)
        · refine lv_iconst (v := iI 0) hx hb dX3_fitTo_99 rfl ?_
          exact J100 0 H locs ls (by omega) hP hD hS hl
        · refine lv_iconst (v := iI 1) hx hb dX3_fitTo_95 rfl ?_
          refine lv_goto (tgt := 100) hx hb dX3_fitTo_96 (by decide) ?_
          exact J100 1 H locs ls (by omega) hP hD hS hl
      refine xr_icmp_lt (tgt := 83) hx hb dX3_fitTo_76 (by decide) (by omega) (by omega) (fun h_63 => ?_) (fun h_63 => ?_)
      · refine lv_iconst (v := iI 0) hx hb dX3_fitTo_83 rfl ?_
        exact J84 0 H locs ls (by omega) hP hD hS hl
      · refine lv_iconst (v := iI 1) hx hb dX3_fitTo_79 rfl ?_
        refine lv_goto (tgt := 84) hx hb dX3_fitTo_80 (by decide) ?_
        exact J84 1 H locs ls (by omega) hP hD hS hl
    · refine lv_iconst (v := iI 1) hx hb dX3_fitTo_62 rfl ?_
      rw [← hQ]
      exact W.zret (v := iI 1) (ty := .boolean) hx hb hr (nb_bool (by omega) (by omega)) (fun t ht hW => ⟨⟨iI 1, v, rfl, ⟨1, rfl, hI, fr_rf, by omega⟩, by rw [ht]; exact hP, va_K.moved hW.alike hK, hD⟩, hS.F ht⟩) hS.2.2 dX3_fitTo_63
  refine xr_if_le (tgt := 54) hx hb dX3_fitTo_44 (by decide) (by omega) (fun h_64 => ?_) (fun h_64 => ?_)
  · refine lv_iconst (v := iI 0) hx hb dX3_fitTo_54 rfl ?_
    exact J55 0 H locs ls (by omega) hP hD hS hl
  · refine lv_iload hx hb dX3_fitTo_47 (lv_at hl 0 rfl) ?_
    refine lv_iload_n hx hb dX3_fitTo_49 rfl (lv_at hl 4 rfl) ?_
    refine xr_remA hx hb dX3_fitTo_50 (by omega) (by omega) (fun z_65 h_66 => ?_)
    refine lv_goto (tgt := 55) hx hb dX3_fitTo_51 (by decide) ?_
    exact J55 z_65 H locs ls (by omega) hP hD hS hl
set_option maxHeartbeats 2000000 in
set_option maxRecDepth 100000 in
theorem sX3_differences (l : Launch) (dC : Nat → ClassId) (dI : Nat → Nat → Nat) (sz : Nat) (L : List Nat) (cid : Nat → ClassId) (K : Int → Nat) (N : Int → Int) (tW : Nat) (sK sV : Nat → Nat) (v : Int → Int → Int) (p0 : Int) (hI : xI L K N v) (q0 : ok L K p0 3) : Met l yX3_differences (jk yX3_differences cX3_differences 3 (some .int)) ({ frames := 1, cells := 0, slots := 0, locals := 40 }) (va_Pc [.ref p0.toNat] (xP (dC, dI) (xG L cid K N v) (xT cid) tW sK sV sz)) (va_Qi (fun (r : Int32) (_ : Unit) => ∃ z : Int, r = iI z ∧ (rg z)) (fun _ _ => True) (va_A [] sz)) 0 0 (va_A [] sz) := by
  refine Met.ofW (cc := cX3_differences) (maxL := 3) (ret := (some .int)) (by decide) rfl ?_
  intro p e s m args below meth c s₁ B hml hv
  obtain ⟨rfl, ⟨hsz, hP, hK, hD0⟩, hX⟩ := hv
  have hx := B.exec
  have hb := B.bytes
  have hr := B.returns
  have hts := atoms_spec (ws := (jk yX3_differences cX3_differences 3 (some .int))) B.pre
  have hj : ∀ w ∈ jw, w.before ([.ref p0.toNat] : List Value).toArray s = true := fun w h => hts w (jm h)
  have hown : s.vm.findClass RX3 = some m.cls := findClass_of_methodNamed B.named
  subst hsz
  have hDw := hD0.self (sz := s.heap.size)
  have hAA : ∀ q : Nat, s.heap.size ≤ q → va_A (xG L cid K N v) s.heap.size q := fun q h => Or.inr h
  have hAw : ∀ q, va_A [] s.heap.size q → va_A (xG L cid K N v) s.heap.size q := ja_nil va_S.rf hAA
  generalize hAe : (va_A [] s.heap.size) = A at hAw ⊢
  have hA : ∀ q : Nat, s.heap.size ≤ q → A q := fun q h => by rw [← hAe]; exact Or.inr h
  have hS : va_S A s.heap s.heap [] := va_S.rf
  have hXa := hX.nar hAw
  have hP : va_P (dC, dI) vwCl (xG L cid K N v) s.heap := hP
  have hl := lv_entry ([.ref p0.toNat]) (n := 3) (Nat.le_of_ble_eq_true rfl)
  rw [lg_entry_eq]
  generalize (lg_sl ([.ref p0.toNat]) ++ List.replicate (3 - (lg_sl ([.ref p0.toNat])).length) Slot.unset).toArray = ls at hl ⊢
  have hl : lv_has ls 3 [(0, .ref p0.toNat)] := hl
  generalize hQ : MQ below (va_Qi (fun (r : Int32) (_ : Unit) => ∃ z : Int, r = iI z ∧ (rg z)) (fun _ _ => True) A) ([.ref p0.toNat] : List Value).toArray s 0 0 A = Q
  suffices ST : ∀ (H : Heap) (locs : List Loc), va_P (dC, dI) vwCl (xG L cid K N v) H → va_S A s.heap H locs → W p l e ({ frames := 1, cells := 0, slots := 0, locals := 40 }) s m ([.ref p0.toNat] : List Value).toArray below meth c H locs 0 0 Q (F0 m 0 ls []) from ST _ _ hP hS
  clear hP hS
  intro H locs hP hS
  refine lv_iconst (v := iI 0) hx hb dX3_differences_0 rfl ?_
  refine lv_istore_n (i := 1) (lv' := [(1, .int (iI 0)), (0, .ref p0.toNat)]) hx hb dX3_differences_1 rfl hl (by decide) rfl (fun ls hl => ?_)
  refine lv_iconst (v := iI 0) hx hb dX3_differences_2 rfl ?_
  refine lv_istore_n (i := 2) (lv' := [(2, .int (iI 0)), (1, .int (iI 0)), (0, .ref p0.toNat)]) hx hb dX3_differences_3 rfl hl (by decide) rfl (fun ls hl => ?_)
  have L4 : ∀ (n4 : Nat) (a2_4 a1_4 : Int) (H : Heap) (locs : List Loc) (ls : Array Slot), (0 ≤ a2_4 ∧ a2_4 ≤ 2147483647) → ((-2147483648) ≤ a1_4 ∧ a1_4 ≤ 2147483647) → (0 < (n4 : Int) ∧ (v p0 5) - a2_4 < (n4 : Int)) → va_P (dC, dI) vwCl (xG L cid K N v) H → va_S A s.heap H locs → lv_has ls 3 [(2, .int (iI a2_4)), (1, .int (iI a1_4)), (0, .ref p0.toNat)] → W p l e ({ frames := 1, cells := 0, slots := 0, locals := 40 }) s m ([.ref p0.toNat] : List Value).toArray below meth c H locs 0 0 Q (F0 m 4 ls []) := by
    intro n4
    induction n4 with
    | zero =>
      intro a2_4 a1_4 H locs ls h_1 h_2 hm4 hP hS hl
      exfalso; omega
    | succ n4 ih4 =>
      intro a2_4 a1_4 H locs ls h_3 h_4 hm4 hP hS hl
      refine lv_iload_n hx hb dX3_differences_4 rfl (lv_at hl 0 rfl) ?_
      refine lv_aload_n hx hb dX3_differences_5 rfl (lv_at hl 2 rfl) ?_
      have h_5 : (-2147483648) ≤ v p0 5 ∧ v p0 5 ≤ 2147483647 := xf_3_5 hI q0
      refine gx_RX3_27 (y := v p0 5) hx hb hj hown hK hP q0 rfl dX3_differences_6 ?_
      refine xr_icmp_ge (tgt := 43) hx hb dX3_differences_9 (by decide) (by omega) (by omega) (fun h_6 => ?_) (fun h_6 => ?_)
      · refine lv_iload_n hx hb dX3_differences_43 rfl (lv_at hl 1 rfl) ?_
        rw [← hQ]
        exact W.iret (v := iI a1_4) hx hb hr (fun t ht hW => ⟨⟨iI a1_4, (), rfl, ⟨a1_4, rfl, by omega⟩, trivial⟩, hS.F ht⟩) hS.2.2 dX3_differences_44
      · refine lv_iload_n hx hb dX3_differences_12 rfl (lv_at hl 0 rfl) ?_
        refine lv_bipush (v := iI 60) hx hb dX3_differences_13 rfl ?_
        refine xr_icmp_ge (tgt := 43) hx hb dX3_differences_15 (by decide) (by omega) (by omega) (fun h_7 => ?_) (fun h_7 => ?_)
        · refine lv_iload_n hx hb dX3_differences_43 rfl (lv_at hl 1 rfl) ?_
          rw [← hQ]
          exact W.iret (v := iI a1_4) hx hb hr (fun t ht hW => ⟨⟨iI a1_4, (), rfl, ⟨a1_4, rfl, by omega⟩, trivial⟩, hS.F ht⟩) hS.2.2 dX3_differences_44
        · refine lv_iload_n hx hb dX3_differences_18 rfl (lv_at hl 1 rfl) ?_
          refine lv_aload_n hx hb dX3_differences_19 rfl (lv_at hl 2 rfl) ?_
          have h_8 : ok L K (v p0 4) 52 := xf_3_4 hI q0
          have h_9 : N (v p0 4) = 60 := xn_52 hI h_8
          refine gx_RX3_24 (y := v p0 4) hx hb hj hown hK hP q0 ((xf_3_4 hI q0).1) rfl dX3_differences_20 ?_
          refine lv_iload_n hx hb dX3_differences_23 rfl (lv_at hl 0 rfl) ?_
          have h_10 : (-2147483648) ≤ v (v p0 4) a2_4 ∧ v (v p0 4) a2_4 ≤ 2147483647 := xe_52 hI h_8 (by omega)
          refine ax_52 (y := v (v p0 4) a2_4) hx hb hK hP h_8 (by omega) (by omega) (by omega) rfl dX3_differences_24 ?_
          refine lv_aload_n hx hb dX3_differences_25 rfl (lv_at hl 2 rfl) ?_
          have h_11 : ok L K (v p0 1) 52 := xf_3_1 hI q0
          have h_12 : N (v p0 1) = 60 := xn_52 hI h_11
          refine gx_RX3_15 (y := v p0 1) hx hb hj hown hK hP q0 ((xf_3_1 hI q0).1) rfl dX3_differences_26 ?_
          refine lv_iload_n hx hb dX3_differences_29 rfl (lv_at hl 0 rfl) ?_
          have h_13 : (-2147483648) ≤ v (v p0 1) a2_4 ∧ v (v p0 1) a2_4 ≤ 2147483647 := xe_52 hI h_11 (by omega)
          refine ax_52 (y := v (v p0 1) a2_4) hx hb hK hP h_11 (by omega) (by omega) (by omega) rfl dX3_differences_30 ?_
          refine xr_sub hx hb dX3_differences_31 ?_
          refine xr_kept (fun z_14 h_15 h_16 => ?_)
          refine va_mabs hx hb (by rw [hml]; exact hl.1.symm) hown (hj _ m_849) (hj _ m_850) (hj _ m_762) (hj _ m_851) (Nat.le_of_ble_eq_true rfl) (Nat.le_of_ble_eq_true rfl) (Nat.le_of_ble_eq_true rfl) (Nat.le_of_ble_eq_true rfl) dX3_differences_32 ?_
          refine xr_any (fun z_17 h_18 => ?_)
          refine xr_add hx hb dX3_differences_35 ?_
          refine xr_kept (fun z_19 h_20 h_21 => ?_)
          refine lv_istore_n (i := 1) (lv' := [(1, .int (iI z_19)), (2, .int (iI a2_4)), (0, .ref p0.toNat)]) hx hb dX3_differences_36 rfl hl (by decide) rfl (fun ls hl => ?_)
          refine lv_iinc (v := iI (a2_4 + 1)) (lv' := [(2, .int (iI (a2_4 + 1))), (1, .int (iI z_19)), (0, .ref p0.toNat)]) hx hb dX3_differences_37 hl (k := 1) rfl (iI_add _ _) (by decide) rfl (fun ls hl => ?_)
          refine lv_goto (tgt := 4) hx hb dX3_differences_40 (by decide) ?_
          exact ih4 (a2_4 + 1) z_19 H locs ls (by omega) (by omega) (by omega) hP hS hl
  exact L4 ((((v p0 5) - 0 : Int)).toNat + 1) 0 0 H locs ls (by omega) (by omega) (by omega) hP hS hl
set_option maxHeartbeats 2000000 in
set_option maxRecDepth 100000 in
theorem sX3_fittedOf (l : Launch) (dC : Nat → ClassId) (dI : Nat → Nat → Nat) (sz : Nat) (L : List Nat) (cid : Nat → ClassId) (K : Int → Nat) (N : Int → Int) (tW : Nat) (sK sV : Nat → Nat) (v : Int → Int → Int) (p0 : Int) (p1 : Int) (hI : xI L K N v) (q0 : ok L K p0 3) (q1 : rg p1) : Met l yX3_fittedOf (jk yX3_fittedOf cX3_fittedOf 3 (some .int)) ({ frames := 0, cells := 0, slots := 0, locals := 0 }) (va_Pc [.ref p0.toNat, .int (iI p1)] (xP (dC, dI) (xG L cid K N v) (xT cid) tW sK sV sz)) (va_Qi (fun (r : Int32) (_ : Unit) => ∃ z : Int, r = iI z ∧ (rg z)) (fun _ _ => True) (va_A [] sz)) 0 0 (va_A [] sz) := by
  refine Met.ofW (cc := cX3_fittedOf) (maxL := 3) (ret := (some .int)) (by decide) rfl ?_
  intro p e s m args below meth c s₁ B hml hv
  obtain ⟨rfl, ⟨hsz, hP, hK, hD0⟩, hX⟩ := hv
  have hx := B.exec
  have hb := B.bytes
  have hr := B.returns
  have hts := atoms_spec (ws := (jk yX3_fittedOf cX3_fittedOf 3 (some .int))) B.pre
  have hj : ∀ w ∈ jw, w.before ([.ref p0.toNat, .int (iI p1)] : List Value).toArray s = true := fun w h => hts w (jm h)
  have hown : s.vm.findClass RX3 = some m.cls := findClass_of_methodNamed B.named
  subst hsz
  have hDw := hD0.self (sz := s.heap.size)
  have hAA : ∀ q : Nat, s.heap.size ≤ q → va_A (xG L cid K N v) s.heap.size q := fun q h => Or.inr h
  have hAw : ∀ q, va_A [] s.heap.size q → va_A (xG L cid K N v) s.heap.size q := ja_nil va_S.rf hAA
  generalize hAe : (va_A [] s.heap.size) = A at hAw ⊢
  have hA : ∀ q : Nat, s.heap.size ≤ q → A q := fun q h => by rw [← hAe]; exact Or.inr h
  have hS : va_S A s.heap s.heap [] := va_S.rf
  have hXa := hX.nar hAw
  have hP : va_P (dC, dI) vwCl (xG L cid K N v) s.heap := hP
  have hl := lv_entry ([.ref p0.toNat, .int (iI p1)]) (n := 3) (Nat.le_of_ble_eq_true rfl)
  rw [lg_entry_eq]
  generalize (lg_sl ([.ref p0.toNat, .int (iI p1)]) ++ List.replicate (3 - (lg_sl ([.ref p0.toNat, .int (iI p1)])).length) Slot.unset).toArray = ls at hl ⊢
  have hl : lv_has ls 3 [(0, .ref p0.toNat), (1, .int (iI p1))] := hl
  generalize hQ : MQ below (va_Qi (fun (r : Int32) (_ : Unit) => ∃ z : Int, r = iI z ∧ (rg z)) (fun _ _ => True) A) ([.ref p0.toNat, .int (iI p1)] : List Value).toArray s 0 0 A = Q
  suffices ST : ∀ (H : Heap) (locs : List Loc), va_P (dC, dI) vwCl (xG L cid K N v) H → va_S A s.heap H locs → W p l e ({ frames := 0, cells := 0, slots := 0, locals := 0 }) s m ([.ref p0.toNat, .int (iI p1)] : List Value).toArray below meth c H locs 0 0 Q (F0 m 0 ls []) from ST _ _ hP hS
  clear hP hS
  intro H locs hP hS
  refine lv_iconst (v := iI 0) hx hb dX3_fittedOf_0 rfl ?_
  refine lv_istore_n (i := 2) (lv' := [(2, .int (iI 0)), (0, .ref p0.toNat), (1, .int (iI p1))]) hx hb dX3_fittedOf_1 rfl hl (by decide) rfl (fun ls hl => ?_)
  have L2 : ∀ (n2 : Nat) (a2_2 : Int) (H : Heap) (locs : List Loc) (ls : Array Slot), (0 ≤ a2_2 ∧ a2_2 ≤ 2147483647) → (0 < (n2 : Int) ∧ (v p0 5) - a2_2 < (n2 : Int)) → va_P (dC, dI) vwCl (xG L cid K N v) H → va_S A s.heap H locs → lv_has ls 3 [(2, .int (iI a2_2)), (0, .ref p0.toNat), (1, .int (iI p1))] → W p l e ({ frames := 0, cells := 0, slots := 0, locals := 0 }) s m ([.ref p0.toNat, .int (iI p1)] : List Value).toArray below meth c H locs 0 0 Q (F0 m 2 ls []) := by
    intro n2
    induction n2 with
    | zero =>
      intro a2_2 H locs ls h_1 hm2 hP hS hl
      exfalso; omega
    | succ n2 ih2 =>
      intro a2_2 H locs ls h_2 hm2 hP hS hl
      refine lv_iload_n hx hb dX3_fittedOf_2 rfl (lv_at hl 0 rfl) ?_
      refine lv_aload_n hx hb dX3_fittedOf_3 rfl (lv_at hl 1 rfl) ?_
      have h_3 : (-2147483648) ≤ v p0 5 ∧ v p0 5 ≤ 2147483647 := xf_3_5 hI q0
      refine gx_RX3_27 (y := v p0 5) hx hb hj hown hK hP q0 rfl dX3_fittedOf_4 ?_
      refine xr_icmp_ge (tgt := 39) hx hb dX3_fittedOf_7 (by decide) (by omega) (by omega) (fun h_4 => ?_) (fun h_4 => ?_)
      · refine lv_iconst (v := iI (-1)) hx hb dX3_fittedOf_39 rfl ?_
        rw [← hQ]
        exact W.iret (v := iI (-1)) hx hb hr (fun t ht hW => ⟨⟨iI (-1), (), rfl, ⟨(-1), rfl, by omega⟩, trivial⟩, hS.F ht⟩) hS.2.2 dX3_fittedOf_40
      · refine lv_iload_n hx hb dX3_fittedOf_10 rfl (lv_at hl 0 rfl) ?_
        refine lv_bipush (v := iI 60) hx hb dX3_fittedOf_11 rfl ?_
        refine xr_icmp_ge (tgt := 39) hx hb dX3_fittedOf_13 (by decide) (by omega) (by omega) (fun h_5 => ?_) (fun h_5 => ?_)
        · refine lv_iconst (v := iI (-1)) hx hb dX3_fittedOf_39 rfl ?_
          rw [← hQ]
          exact W.iret (v := iI (-1)) hx hb hr (fun t ht hW => ⟨⟨iI (-1), (), rfl, ⟨(-1), rfl, by omega⟩, trivial⟩, hS.F ht⟩) hS.2.2 dX3_fittedOf_40
        · refine lv_aload_n hx hb dX3_fittedOf_16 rfl (lv_at hl 1 rfl) ?_
          have h_6 : ok L K (v p0 0) 52 := xf_3_0 hI q0
          have h_7 : N (v p0 0) = 60 := xn_52 hI h_6
          refine gx_RX3_9 (y := v p0 0) hx hb hj hown hK hP q0 ((xf_3_0 hI q0).1) rfl dX3_fittedOf_17 ?_
          refine lv_iload_n hx hb dX3_fittedOf_20 rfl (lv_at hl 0 rfl) ?_
          have h_8 : (-2147483648) ≤ v (v p0 0) a2_2 ∧ v (v p0 0) a2_2 ≤ 2147483647 := xe_52 hI h_6 (by omega)
          refine ax_52 (y := v (v p0 0) a2_2) hx hb hK hP h_6 (by omega) (by omega) (by omega) rfl dX3_fittedOf_21 ?_
          refine lv_iload_n hx hb dX3_fittedOf_22 rfl (lv_at hl 2 rfl) ?_
          refine xr_icmp_ne (tgt := 33) hx hb dX3_fittedOf_23 (by decide) (by omega) (by omega) (fun h_9 => ?_) (fun h_9 => ?_)
          · refine lv_iinc (v := iI (a2_2 + 1)) (lv' := [(2, .int (iI (a2_2 + 1))), (0, .ref p0.toNat), (1, .int (iI p1))]) hx hb dX3_fittedOf_33 hl (k := 0) rfl (iI_add _ _) (by decide) rfl (fun ls hl => ?_)
            refine lv_goto (tgt := 2) hx hb dX3_fittedOf_36 (by decide) ?_
            exact ih2 (a2_2 + 1) H locs ls (by omega) (by omega) hP hS hl
          · refine lv_aload_n hx hb dX3_fittedOf_26 rfl (lv_at hl 1 rfl) ?_
            have h_10 : ok L K (v p0 4) 52 := xf_3_4 hI q0
            have h_11 : N (v p0 4) = 60 := xn_52 hI h_10
            refine gx_RX3_24 (y := v p0 4) hx hb hj hown hK hP q0 ((xf_3_4 hI q0).1) rfl dX3_fittedOf_27 ?_
            refine lv_iload_n hx hb dX3_fittedOf_30 rfl (lv_at hl 0 rfl) ?_
            have h_12 : (-2147483648) ≤ v (v p0 4) a2_2 ∧ v (v p0 4) a2_2 ≤ 2147483647 := xe_52 hI h_10 (by omega)
            refine ax_52 (y := v (v p0 4) a2_2) hx hb hK hP h_10 (by omega) (by omega) (by omega) rfl dX3_fittedOf_31 ?_
            rw [← hQ]
            exact W.iret (v := iI (v (v p0 4) a2_2)) hx hb hr (fun t ht hW => ⟨⟨iI (v (v p0 4) a2_2), (), rfl, ⟨v (v p0 4) a2_2, rfl, by omega⟩, trivial⟩, hS.F ht⟩) hS.2.2 dX3_fittedOf_32
  exact L2 ((((v p0 5) - 0 : Int)).toNat + 1) 0 H locs ls (by omega) (by omega) hP hS hl
