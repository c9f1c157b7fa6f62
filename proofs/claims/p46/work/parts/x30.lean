set_option maxHeartbeats 2000000 in
set_option maxRecDepth 100000 in
theorem sX7_addToken (l : Launch) (dC : Nat → ClassId) (dI : Nat → Nat → Nat) (sz : Nat) (L : List Nat) (cid : Nat → ClassId) (K : Int → Nat) (N : Int → Int) (tW : Nat) (sK sV : Nat → Nat) (v : Int → Int → Int) (p0 : Int) (p1 : Int) (p2 : Int) (p3 : Int) (hI : xI L K N v) (q0 : ok L K p0 7) (q1 : rg p1) (q2 : rg p2) (q3 : rg p3) : Met l yX7_addToken (jk yX7_addToken cX7_addToken 4 none) ({ frames := 6, cells := 0, slots := 0, locals := 134 }) (va_Pc [.ref p0.toNat, .int (iI p1), .int (iI p2), .int (iI p3)] (xP (dC, dI) (xG L cid K N v) (xT cid) tW sK sV sz)) (va_Qv (fun (u : (Int → Int → Int)) => (xI L K N u) ∧ (fr K [(7, 6), (21, (-1)), (22, (-1)), (23, (-1)), (24, (-1))] u v)) (fun u t => va_P (dC, dI) vwCl (xG L cid K N u) t.heap ∧ va_K (dC, dI) vwCl (xT cid) t ∧ va_D (va_A (xG L cid K N v) sz) (xG L cid K N u)) (va_A (xG L cid K N v) sz)) 0 0 (va_A (xG L cid K N v) sz) := by
  refine Met.ofW (cc := cX7_addToken) (maxL := 4) (ret := none) (by decide) rfl ?_
  intro p e s m args below meth c s₁ B hml hv
  obtain ⟨rfl, ⟨hsz, hP, hK, hD0⟩, hX⟩ := hv
  have hx := B.exec
  have hb := B.bytes
  have hr := B.returns
  have hts := atoms_spec (ws := (jk yX7_addToken cX7_addToken 4 none)) B.pre
  have hj : ∀ w ∈ jw, w.before ([.ref p0.toNat, .int (iI p1), .int (iI p2), .int (iI p3)] : List Value).toArray s = true := fun w h => hts w (jm h)
  have hown : s.vm.findClass RX7 = some m.cls := findClass_of_methodNamed B.named
  subst hsz
  have hD := hD0.self (sz := s.heap.size)
  generalize hAe : (va_A (xG L cid K N v) s.heap.size) = A at hD hX ⊢
  have hA : ∀ q : Nat, s.heap.size ≤ q → A q := fun q h => by rw [← hAe]; exact Or.inr h
  have hS : va_S A s.heap s.heap [] := va_S.rf
  have hXa := hX
  have hP : va_P (dC, dI) vwCl (xG L cid K N v) s.heap := hP
  have hl := lv_entry ([.ref p0.toNat, .int (iI p1), .int (iI p2), .int (iI p3)]) (n := 4) (Nat.le_of_ble_eq_true rfl)
  rw [lg_entry_eq]
  generalize (lg_sl ([.ref p0.toNat, .int (iI p1), .int (iI p2), .int (iI p3)]) ++ List.replicate (4 - (lg_sl ([.ref p0.toNat, .int (iI p1), .int (iI p2), .int (iI p3)])).length) Slot.unset).toArray = ls at hl ⊢
  have hl : lv_has ls 4 [(0, .ref p0.toNat), (1, .int (iI p1)), (2, .int (iI p2)), (3, .int (iI p3))] := hl
  generalize hQ : MQ below (va_Qv (fun (u : (Int → Int → Int)) => (xI L K N u) ∧ (fr K [(7, 6), (21, (-1)), (22, (-1)), (23, (-1)), (24, (-1))] u v)) (fun u t => va_P (dC, dI) vwCl (xG L cid K N u) t.heap ∧ va_K (dC, dI) vwCl (xT cid) t ∧ va_D A (xG L cid K N u)) A) ([.ref p0.toNat, .int (iI p1), .int (iI p2), .int (iI p3)] : List Value).toArray s 0 0 A = Q
  suffices ST : ∀ (H : Heap) (locs : List Loc), va_P (dC, dI) vwCl (xG L cid K N v) H → va_S A s.heap H locs → W p l e ({ frames := 6, cells := 0, slots := 0, locals := 134 }) s m ([.ref p0.toNat, .int (iI p1), .int (iI p2), .int (iI p3)] : List Value).toArray below meth c H locs 0 0 Q (F0 m 0 ls []) from ST _ _ hP hS
  clear hP hS
  intro H locs hP hS
  refine lv_aload_n hx hb dX7_addToken_0 rfl (lv_at hl 0 rfl) ?_
  have h_1 : (-2147483648) ≤ v p0 6 ∧ v p0 6 ≤ 2147483647 := xf_7_6 hI q0
  refine gx_RX7_106 (y := v p0 6) hx hb hj hown hK hP q0 rfl dX7_addToken_1 ?_
  refine xr_if_lt (tgt := 97) hx hb dX7_addToken_4 (by decide) (by omega) (fun h_2 => ?_) (fun h_2 => ?_)
  · rw [← hQ]
    exact W.vret hx hb hr (fun t ht hW => ⟨⟨v, rfl, ⟨hI, fr_rf⟩, by rw [ht]; exact hP, va_K.moved hW.alike hK, hD⟩, hS.F ht⟩) hS.2.2 dX7_addToken_97
  · refine lv_aload_n hx hb dX7_addToken_7 rfl (lv_at hl 0 rfl) ?_
    refine gx_RX7_106 (y := v p0 6) hx hb hj hown hK hP q0 rfl dX7_addToken_8 ?_
    refine lv_aload_n hx hb dX7_addToken_11 rfl (lv_at hl 0 rfl) ?_
    have h_3 : ok L K (v p0 2) 21 := xf_7_2 hI q0
    have h_4 : N (v p0 2) = 601 := xn_21 hI h_3
    refine gx_RX7_15 (y := v p0 2) hx hb hj hown hK hP q0 ((xf_7_2 hI q0).1) rfl dX7_addToken_12 ?_
    refine lx_21 (y := 601) hx hb hK hP h_3 (by omega) (by omega) dX7_addToken_15 ?_
    refine xr_icmp_ge (tgt := 97) hx hb dX7_addToken_16 (by decide) (by omega) (by omega) (fun h_5 => ?_) (fun h_5 => ?_)
    · rw [← hQ]
      exact W.vret hx hb hr (fun t ht hW => ⟨⟨v, rfl, ⟨hI, fr_rf⟩, by rw [ht]; exact hP, va_K.moved hW.alike hK, hD⟩, hS.F ht⟩) hS.2.2 dX7_addToken_97
    · refine lv_aload_n hx hb dX7_addToken_19 rfl (lv_at hl 0 rfl) ?_
      refine gx_RX7_15 (y := v p0 2) hx hb hj hown hK hP q0 ((xf_7_2 hI q0).1) rfl dX7_addToken_20 ?_
      refine lv_aload_n hx hb dX7_addToken_23 rfl (lv_at hl 0 rfl) ?_
      refine gx_RX7_106 (y := v p0 6) hx hb hj hown hK hP q0 rfl dX7_addToken_24 ?_
      refine lv_iload_n hx hb dX7_addToken_27 rfl (lv_at hl 1 rfl) ?_
      refine sx_21 (y := p1) hx hb hK hP hD hS hI h_3 (by omega) (by omega) (by omega) ⟨by omega, by omega⟩ dX7_addToken_28 (fun v_6 H locs f_7 e_8 o_9 I_10 hP hD hS => ?_)
      refine lv_aload_n hx hb dX7_addToken_29 rfl (lv_at hl 0 rfl) ?_
      have h_11 : ok L K (v p0 3) 22 := xf_7_3 hI q0
      have h_12 : N (v p0 3) = 601 := xn_22 hI h_11
      refine gx_RX7_19 (y := v p0 3) hx hb hj hown hK hP q0 ((xf_7_3 I_10 q0).1) (fr_use q0 f_7 rfl) dX7_addToken_30 ?_
      refine lv_aload_n hx hb dX7_addToken_33 rfl (lv_at hl 0 rfl) ?_
      refine gx_RX7_106 (y := v p0 6) hx hb hj hown hK hP q0 (fr_use q0 f_7 rfl) dX7_addToken_34 ?_
      refine lv_iload_n hx hb dX7_addToken_37 rfl (lv_at hl 2 rfl) ?_
      refine sx_22 (y := p2) hx hb hK hP hD hS I_10 h_11 (by omega) (by omega) (by omega) ⟨by omega, by omega⟩ dX7_addToken_38 (fun v_13 H locs f_14 e_15 o_16 I_17 hP hD hS => ?_)
      refine lv_aload_n hx hb dX7_addToken_39 rfl (lv_at hl 0 rfl) ?_
      have h_18 : ok L K (v p0 4) 23 := xf_7_4 hI q0
      have h_19 : N (v p0 4) = 601 := xn_23 hI h_18
      refine gx_RX7_22 (y := v p0 4) hx hb hj hown hK hP q0 ((xf_7_4 I_17 q0).1) (((fr_use q0 f_14 rfl)).trans (fr_use q0 f_7 rfl)) dX7_addToken_40 ?_
      refine lv_aload_n hx hb dX7_addToken_43 rfl (lv_at hl 0 rfl) ?_
      refine gx_RX7_106 (y := v p0 6) hx hb hj hown hK hP q0 (((fr_use q0 f_14 rfl)).trans (fr_use q0 f_7 rfl)) dX7_addToken_44 ?_
      refine lv_iload_n hx hb dX7_addToken_47 rfl (lv_at hl 3 rfl) ?_
      refine sx_23 (y := p3) hx hb hK hP hD hS I_17 h_18 (by omega) (by omega) (by omega) ⟨by omega, by omega⟩ dX7_addToken_48 (fun v_20 H locs f_21 e_22 o_23 I_24 hP hD hS => ?_)
      refine lv_aload_n hx hb dX7_addToken_49 rfl (lv_at hl 0 rfl) ?_
      have h_25 : ok L K (v p0 5) 24 := xf_7_5 hI q0
      have h_26 : N (v p0 5) = 601 := xn_24 hI h_25
      refine gx_RX7_25 (y := v p0 5) hx hb hj hown hK hP q0 ((xf_7_5 I_24 q0).1) (((fr_use q0 f_21 rfl)).trans (((fr_use q0 f_14 rfl)).trans (fr_use q0 f_7 rfl))) dX7_addToken_50 ?_
      refine lv_aload_n hx hb dX7_addToken_53 rfl (lv_at hl 0 rfl) ?_
      refine gx_RX7_106 (y := v p0 6) hx hb hj hown hK hP q0 (((fr_use q0 f_21 rfl)).trans (((fr_use q0 f_14 rfl)).trans (fr_use q0 f_7 rfl))) dX7_addToken_54 ?_
      refine lv_iload_n hx hb dX7_addToken_57 rfl (lv_at hl 1 rfl) ?_
      refine lv_iconst (v := iI 1) hx hb dX7_addToken_58 rfl ?_
      have J86 : ∀ (s0_86 : Int) (H : Heap) (locs : List Loc) (ls : Array Slot), ((-2147483648) ≤ s0_86 ∧ s0_86 ≤ 2147483647) → va_P (dC, dI) vwCl (xG L cid K N v_20) H → va_D A (xG L cid K N v_20) → va_S A s.heap H locs → lv_has ls 4 [(0, .ref p0.toNat), (1, .int (iI p1)), (2, .int (iI p2)), (3, .int (iI p3))] → W p l e ({ frames := 6, cells := 0, slots := 0, locals := 134 }) s m ([.ref p0.toNat, .int (iI p1), .int (iI p2), .int (iI p3)] : List Value).toArray below meth c H locs 0 0 Q (F0 m 86 ls [.int (iI s0_86), .int (iI (v p0 6)), .ref (v p0 5).toNat]) := by
        intro s0_86 H locs ls h_27 hP hD hS hl
        refine sx_24 (y := s0_86) hx hb hK hP hD hS I_24 h_25 (by omega) (by omega) (by omega) ⟨by omega, by omega⟩ dX7_addToken_86 (fun v_28 H locs f_29 e_30 o_31 I_32 hP hD hS => ?_)
        refine lv_aload_n hx hb dX7_addToken_87 rfl (lv_at hl 0 rfl) ?_
        refine lv_dup hx hb dX7_addToken_88 rfl ?_
        refine gx_RX7_106 (y := v p0 6) hx hb hj hown hK hP q0 (((fr_use q0 f_29 rfl)).trans (((fr_use q0 f_21 rfl)).trans (((fr_use q0 f_14 rfl)).trans (fr_use q0 f_7 rfl)))) dX7_addToken_89 ?_
        refine lv_iconst (v := iI 1) hx hb dX7_addToken_92 rfl ?_
        refine xr_add hx hb dX7_addToken_93 ?_
        refine xr_kept (fun z_33 h_34 h_35 => ?_)
        refine px_RX7_106 (y := z_33) hx hb hj hown hK hP hD hS I_32 q0 ⟨by omega, by omega⟩ dX7_addToken_94 (fun v_36 H locs f_37 e_38 o_39 I_40 hP hD hS => ?_)
        rw [← hQ]
        exact W.vret hx hb hr (fun t ht hW => ⟨⟨v_36, rfl, ⟨I_40, (fr_tr f_37 rfl (fr_tr f_29 rfl (fr_tr f_21 rfl (fr_tr f_14 rfl (fr_tr f_7 rfl fr_rf)))))⟩, by rw [ht]; exact hP, va_K.moved hW.alike hK, hD⟩, hS.F ht⟩) hS.2.2 dX7_addToken_97
      refine xr_icmp_ne (tgt := 71) hx hb dX7_addToken_59 (by decide) (by omega) (by omega) (fun h_41 => ?_) (fun h_41 => ?_)
      · refine lv_iload_n hx hb dX7_addToken_71 rfl (lv_at hl 1 rfl) ?_
        refine lv_iconst (v := iI 2) hx hb dX7_addToken_72 rfl ?_
        refine xr_icmp_ne (tgt := 85) hx hb dX7_addToken_73 (by decide) (by omega) (by omega) (fun h_42 => ?_) (fun h_42 => ?_)
        · refine lv_iconst (v := iI (-1)) hx hb dX7_addToken_85 rfl ?_
          exact J86 (-1) H locs ls (by omega) hP hD hS hl
        · refine lv_aload_n hx hb dX7_addToken_76 rfl (lv_at hl 0 rfl) ?_
          refine lv_iload_n hx hb dX7_addToken_77 rfl (lv_at hl 2 rfl) ?_
          refine lv_iload_n hx hb dX7_addToken_78 rfl (lv_at hl 3 rfl) ?_
          refine jc_i (va_runV (As := [.int (iI p2), .int (iI p3)]) (rest := [.int (iI (v p0 6)), .ref (v p0 5).toNat]) ⟨hx, hb, hml, hown, hts⟩ (sX7_numberAt l dC dI _ L cid K N tW sK sV v_20 p0 p2 p3 I_24 q0 (by omega) (by omega)) (cwV 2 hts (jgoodV m_816 m_817 m_818 m_677 m_819) rfl rfl rfl (by decide +kernel) ⟨(Nat.le_of_ble_eq_true rfl), (Nat.le_of_ble_eq_true rfl)⟩) ⟨xP_blind, xrecv hK hP q0 rfl rfl, fun U hU hW => ⟨rfl, xP_of hU hW hP hK hD hX hS (fun _ h => h) hA⟩⟩ rfl rfl hl.1 rfl (lv_room (Nat.le_of_ble_eq_true rfl)) dX7_addToken_79 ⟨(Nat.le_of_ble_eq_true rfl), (Nat.le_of_ble_eq_true rfl)⟩) hP hS hA (fun r_43 H locs w_44 hP hS => ?_)
          obtain ⟨z_45, rfl, h_46⟩ := w_44
          refine lv_goto (tgt := 86) hx hb dX7_addToken_82 (by decide) ?_
          exact J86 z_45 H locs ls (by omega) hP hD hS hl
      · refine lv_aload_n hx hb dX7_addToken_62 rfl (lv_at hl 0 rfl) ?_
        refine lv_iload_n hx hb dX7_addToken_63 rfl (lv_at hl 2 rfl) ?_
        refine lv_iload_n hx hb dX7_addToken_64 rfl (lv_at hl 3 rfl) ?_
        refine jc_i (va_runV (As := [.int (iI p2), .int (iI p3)]) (rest := [.int (iI (v p0 6)), .ref (v p0 5).toNat]) ⟨hx, hb, hml, hown, hts⟩ (sX7_wordAt l dC dI _ L cid K N tW sK sV v_20 p0 p2 p3 I_24 q0 (by omega) (by omega)) (cwV 2 hts (jgoodV m_820 m_821 m_822 m_677 m_823) rfl rfl rfl (by decide +kernel) ⟨(Nat.le_of_ble_eq_true rfl), (Nat.le_of_ble_eq_true rfl)⟩) ⟨xP_blind, xrecv hK hP q0 rfl rfl, fun U hU hW => ⟨rfl, xP_of hU hW hP hK hD hX hS (fun _ h => h) hA⟩⟩ rfl rfl hl.1 rfl (lv_room (Nat.le_of_ble_eq_true rfl)) dX7_addToken_65 ⟨(Nat.le_of_ble_eq_true rfl), (Nat.le_of_ble_eq_true rfl)⟩) hP hS hA (fun r_47 H locs w_48 hP hS => ?_)
        obtain ⟨z_49, rfl, h_50⟩ := w_48
        refine lv_goto (tgt := 86) hx hb dX7_addToken_68 (by decide) ?_
        exact J86 z_49 H locs ls (by omega) hP hD hS hl
set_option maxHeartbeats 2000000 in
set_option maxRecDepth 100000 in
theorem sX7_scan (l : Launch) (dC : Nat → ClassId) (dI : Nat → Nat → Nat) (sz : Nat) (L : List Nat) (cid : Nat → ClassId) (K : Int → Nat) (N : Int → Int) (tW : Nat) (sK sV : Nat → Nat) (v : Int → Int → Int) (p0 : Int) (hI : xI L K N v) (q0 : ok L K p0 7) : Met l yX7_scan (jk yX7_scan cX7_scan 5 none) ({ frames := 7, cells := 0, slots := 0, locals := 157 }) (va_Pc [.ref p0.toNat] (xP (dC, dI) (xG L cid K N v) (xT cid) tW sK sV sz)) (va_Qv (fun (u : (Int → Int → Int)) => (xI L K N u) ∧ (fr K [(7, 6), (21, (-1)), (22, (-1)), (23, (-1)), (24, (-1))] u v)) (fun u t => va_P (dC, dI) vwCl (xG L cid K N u) t.heap ∧ va_K (dC, dI) vwCl (xT cid) t ∧ va_D (va_A (xG L cid K N v) sz) (xG L cid K N u)) (va_A (xG L cid K N v) sz)) 0 0 (va_A (xG L cid K N v) sz) := by
  refine Met.ofW (cc := cX7_scan) (maxL := 5) (ret := none) (by decide) rfl ?_
  intro p e s m args below meth c s₁ B hml hv
  obtain ⟨rfl, ⟨hsz, hP, hK, hD0⟩, hX⟩ := hv
  have hx := B.exec
  have hb := B.bytes
  have hr := B.returns
  have hts := atoms_spec (ws := (jk yX7_scan cX7_scan 5 none)) B.pre
  have hj : ∀ w ∈ jw, w.before ([.ref p0.toNat] : List Value).toArray s = true := fun w h => hts w (jm h)
  have hown : s.vm.findClass RX7 = some m.cls := findClass_of_methodNamed B.named
  subst hsz
  have hD := hD0.self (sz := s.heap.size)
  generalize hAe : (va_A (xG L cid K N v) s.heap.size) = A at hD hX ⊢
  have hA : ∀ q : Nat, s.heap.size ≤ q → A q := fun q h => by rw [← hAe]; exact Or.inr h
  have hS : va_S A s.heap s.heap [] := va_S.rf
  have hXa := hX
  have hP : va_P (dC, dI) vwCl (xG L cid K N v) s.heap := hP
  have hl := lv_entry ([.ref p0.toNat]) (n := 5) (Nat.le_of_ble_eq_true rfl)
  rw [lg_entry_eq]
  generalize (lg_sl ([.ref p0.toNat]) ++ List.replicate (5 - (lg_sl ([.ref p0.toNat])).length) Slot.unset).toArray = ls at hl ⊢
  have hl : lv_has ls 5 [(0, .ref p0.toNat)] := hl
  generalize hQ : MQ below (va_Qv (fun (u : (Int → Int → Int)) => (xI L K N u) ∧ (fr K [(7, 6), (21, (-1)), (22, (-1)), (23, (-1)), (24, (-1))] u v)) (fun u t => va_P (dC, dI) vwCl (xG L cid K N u) t.heap ∧ va_K (dC, dI) vwCl (xT cid) t ∧ va_D A (xG L cid K N u)) A) ([.ref p0.toNat] : List Value).toArray s 0 0 A = Q
  suffices ST : ∀ (H : Heap) (locs : List Loc), va_P (dC, dI) vwCl (xG L cid K N v) H → va_S A s.heap H locs → W p l e ({ frames := 7, cells := 0, slots := 0, locals := 157 }) s m ([.ref p0.toNat] : List Value).toArray below meth c H locs 0 0 Q (F0 m 0 ls []) from ST _ _ hP hS
  clear hP hS
  intro H locs hP hS
  refine lv_aload_n hx hb dX7_scan_0 rfl (lv_at hl 0 rfl) ?_
  refine lv_iconst (v := iI 0) hx hb dX7_scan_1 rfl ?_
  refine px_RX7_106 (y := 0) hx hb hj hown hK hP hD hS hI q0 ⟨by omega, by omega⟩ dX7_scan_2 (fun v_1 H locs f_2 e_3 o_4 I_5 hP hD hS => ?_)
  refine lv_iconst (v := iI 0) hx hb dX7_scan_5 rfl ?_
  refine lv_istore_n (i := 1) (lv' := [(1, .int (iI 0)), (0, .ref p0.toNat)]) hx hb dX7_scan_6 rfl hl (by decide) rfl (fun ls hl => ?_)
  refine lv_iconst (v := iI 1) hx hb dX7_scan_7 rfl ?_
  refine lv_istore_n (i := 2) (lv' := [(2, .int (iI 1)), (1, .int (iI 0)), (0, .ref p0.toNat)]) hx hb dX7_scan_8 rfl hl (by decide) rfl (fun ls hl => ?_)
  refine lv_iconst (v := iI 0) hx hb dX7_scan_9 rfl ?_
  refine lv_istore_n (i := 3) (lv' := [(3, .int (iI 0)), (2, .int (iI 1)), (1, .int (iI 0)), (0, .ref p0.toNat)]) hx hb dX7_scan_10 rfl hl (by decide) rfl (fun ls hl => ?_)
  have L11 : ∀ (n11 : Nat) (a3_11 a2_11 a1_11 : Int) (vc11 : Int → Int → Int) (H : Heap) (locs : List Loc) (ls : Array Slot), (0 ≤ a3_11 ∧ a3_11 ≤ 2147483647) → ((-2147483648) ≤ a2_11 ∧ a2_11 ≤ 2147483647) → ((-2147483648) ≤ a1_11 ∧ a1_11 ≤ 2147483647) → (0 < (n11 : Int) ∧ (v p0 1) - a3_11 + 1 < (n11 : Int)) → fr K [(7, 6), (21, (-1)), (22, (-1)), (23, (-1)), (24, (-1))] vc11 v_1 → xI L K N vc11 → va_P (dC, dI) vwCl (xG L cid K N vc11) H → va_D A (xG L cid K N vc11) → va_S A s.heap H locs → lv_has ls 5 [(3, .int (iI a3_11)), (2, .int (iI a2_11)), (1, .int (iI a1_11)), (0, .ref p0.toNat)] → W p l e ({ frames := 7, cells := 0, slots := 0, locals := 157 }) s m ([.ref p0.toNat] : List Value).toArray below meth c H locs 0 0 Q (F0 m 11 ls []) := by
    intro n11
    induction n11 with
    | zero =>
      intro a3_11 a2_11 a1_11 vc11 H locs ls h_6 h_7 h_8 hm11 f_9 I_10 hP hD hS hl
      exfalso; omega
    | succ n11 ih11 =>
      intro a3_11 a2_11 a1_11 vc11 H locs ls h_11 h_12 h_13 hm11 f_14 I_15 hP hD hS hl
      refine lv_iload_n hx hb dX7_scan_11 rfl (lv_at hl 0 rfl) ?_
      refine lv_aload_n hx hb dX7_scan_12 rfl (lv_at hl 3 rfl) ?_
      have h_16 : 0 ≤ v p0 1 ∧ v p0 1 ≤ 600 := xf_7_1 hI q0
      refine gx_RX7_43 (y := v p0 1) hx hb hj hown hK hP q0 (((fr_use q0 f_14 rfl)).trans (fr_use q0 f_2 rfl)) dX7_scan_13 ?_
      refine xr_icmp_gt (tgt := 93) hx hb dX7_scan_16 (by decide) (by omega) (by omega) (fun h_17 => ?_) (fun h_17 => ?_)
      · rw [← hQ]
        exact W.vret hx hb hr (fun t ht hW => ⟨⟨vc11, rfl, ⟨I_15, (fr_tr f_14 rfl (fr_tr f_2 rfl fr_rf))⟩, by rw [ht]; exact hP, va_K.moved hW.alike hK, hD⟩, hS.F ht⟩) hS.2.2 dX7_scan_93
      · refine lv_iload_n hx hb dX7_scan_19 rfl (lv_at hl 1 rfl) ?_
        refine xr_if_eq (tgt := 93) hx hb dX7_scan_20 (by decide) (by omega) (fun h_18 => ?_) (fun h_18 => ?_)
        · rw [← hQ]
          exact W.vret hx hb hr (fun t ht hW => ⟨⟨vc11, rfl, ⟨I_15, (fr_tr f_14 rfl (fr_tr f_2 rfl fr_rf))⟩, by rw [ht]; exact hP, va_K.moved hW.alike hK, hD⟩, hS.F ht⟩) hS.2.2 dX7_scan_93
        · refine lv_iload_n hx hb dX7_scan_23 rfl (lv_at hl 1 rfl) ?_
          refine lv_iconst (v := iI 3) hx hb dX7_scan_24 rfl ?_
          refine xr_icmp_eq (tgt := 93) hx hb dX7_scan_25 (by decide) (by omega) (by omega) (fun h_19 => ?_) (fun h_19 => ?_)
          · rw [← hQ]
            exact W.vret hx hb hr (fun t ht hW => ⟨⟨vc11, rfl, ⟨I_15, (fr_tr f_14 rfl (fr_tr f_2 rfl fr_rf))⟩, by rw [ht]; exact hP, va_K.moved hW.alike hK, hD⟩, hS.F ht⟩) hS.2.2 dX7_scan_93
          · have L28 : ∀ (n28 : Nat) (a1_28 : Int) (H : Heap) (locs : List Loc) (ls : Array Slot), ((-2147483648) ≤ a1_28 ∧ a1_28 ≤ 2147483647) → (0 < (n28 : Int) ∧ (v p0 1) - a1_28 < (n28 : Int)) → va_P (dC, dI) vwCl (xG L cid K N vc11) H → va_D A (xG L cid K N vc11) → va_S A s.heap H locs → lv_has ls 5 [(3, .int (iI a3_11)), (2, .int (iI a2_11)), (1, .int (iI a1_28)), (0, .ref p0.toNat)] → W p l e ({ frames := 7, cells := 0, slots := 0, locals := 157 }) s m ([.ref p0.toNat] : List Value).toArray below meth c H locs 0 0 Q (F0 m 28 ls []) := by
              intro n28
              induction n28 with
              | zero =>
                intro a1_28 H locs ls h_20 hm28 hP hD hS hl
                exfalso; omega
              | succ n28 ih28 =>
                intro a1_28 H locs ls h_21 hm28 hP hD hS hl
                refine lv_iload_n hx hb dX7_scan_28 rfl (lv_at hl 2 rfl) ?_
                refine lv_aload_n hx hb dX7_scan_29 rfl (lv_at hl 3 rfl) ?_
                refine gx_RX7_43 (y := v p0 1) hx hb hj hown hK hP q0 (((fr_use q0 f_14 rfl)).trans (fr_use q0 f_2 rfl)) dX7_scan_30 ?_
                have J62 : ∀ (H : Heap) (locs : List Loc) (ls : Array Slot), va_P (dC, dI) vwCl (xG L cid K N vc11) H → va_D A (xG L cid K N vc11) → va_S A s.heap H locs → lv_has ls 5 [(3, .int (iI a3_11)), (2, .int (iI a2_11)), (1, .int (iI a1_28)), (0, .ref p0.toNat)] → W p l e ({ frames := 7, cells := 0, slots := 0, locals := 157 }) s m ([.ref p0.toNat] : List Value).toArray below meth c H locs 0 0 Q (F0 m 62 ls []) := by
                  intro H locs ls hP hD hS hl
                  refine lv_aload_n hx hb dX7_scan_62 rfl (lv_at hl 3 rfl) ?_
                  refine lv_iload_n hx hb dX7_scan_63 rfl (lv_at hl 2 rfl) ?_
                  refine jc_i (va_runV (As := [.int (iI a1_28)]) (rest := []) ⟨hx, hb, hml, hown, hts⟩ (sX7_kindAt l dC dI _ L cid K N tW sK sV vc11 p0 a1_28 I_15 q0 (by omega)) (cwV 1 hts (jgoodV m_824 m_825 m_826 m_677 m_827) rfl rfl rfl (by decide +kernel) ⟨(Nat.le_of_ble_eq_true rfl), (Nat.le_of_ble_eq_true rfl)⟩) ⟨xP_blind, xrecv hK hP q0 rfl rfl, fun U hU hW => ⟨rfl, xP_of hU hW hP hK hD hX hS (fun _ h => h) hA⟩⟩ rfl rfl hl.1 rfl (lv_room (Nat.le_of_ble_eq_true rfl)) dX7_scan_64 ⟨(Nat.le_of_ble_eq_true rfl), (Nat.le_of_ble_eq_true rfl)⟩) hP hS hA (fun r_22 H locs w_23 hP hS => ?_)
                  obtain ⟨z_24, rfl, h_25⟩ := w_23
                  refine lv_istore_n (i := 2) (lv' := [(2, .int (iI z_24)), (3, .int (iI a3_11)), (1, .int (iI a1_28)), (0, .ref p0.toNat)]) hx hb dX7_scan_67 rfl hl (by decide) rfl (fun ls hl => ?_)
                  refine lv_aload_n hx hb dX7_scan_68 rfl (lv_at hl 3 rfl) ?_
                  refine lv_iload_n hx hb dX7_scan_69 rfl (lv_at hl 2 rfl) ?_
                  refine lv_iload_n hx hb dX7_scan_70 rfl (lv_at hl 0 rfl) ?_
                  refine jc_i (va_runV (As := [.int (iI a1_28), .int (iI z_24)]) (rest := []) ⟨hx, hb, hml, hown, hts⟩ (sX7_stopAt l dC dI _ L cid K N tW sK sV vc11 p0 a1_28 z_24 I_15 q0 (by omega) (by omega)) (cwV 2 hts (jgoodV m_828 m_829 m_830 m_677 m_831) rfl rfl rfl (by decide +kernel) ⟨(Nat.le_of_ble_eq_true rfl), (Nat.le_of_ble_eq_true rfl)⟩) ⟨xP_blind, xrecv hK hP q0 rfl rfl, fun U hU hW => ⟨rfl, xP_of hU hW hP hK hD hX hS (fun _ h => h) hA⟩⟩ rfl rfl hl.1 rfl (lv_room (Nat.le_of_ble_eq_true rfl)) dX7_scan_71 ⟨(Nat.le_of_ble_eq_true rfl), (Nat.le_of_ble_eq_true rfl)⟩) hP hS hA (fun r_26 H locs w_27 hP hS => ?_)
                  obtain ⟨z_28, rfl, h_29⟩ := w_27
                  refine lv_istore (i := 4) (lv' := [(4, .int (iI z_28)), (2, .int (iI z_24)), (3, .int (iI a3_11)), (1, .int (iI a1_28)), (0, .ref p0.toNat)]) hx hb dX7_scan_74 hl (by decide) rfl (fun ls hl => ?_)
                  refine lv_aload_n hx hb dX7_scan_76 rfl (lv_at hl 4 rfl) ?_
                  refine lv_iload_n hx hb dX7_scan_77 rfl (lv_at hl 1 rfl) ?_
                  refine lv_iload_n hx hb dX7_scan_78 rfl (lv_at hl 3 rfl) ?_
                  refine lv_iload hx hb dX7_scan_79 (lv_at hl 0 rfl) ?_
                  refine jcg_v (va_runV (As := [.int (iI z_24), .int (iI a1_28), .int (iI z_28)]) (rest := []) ⟨hx, hb, hml, hown, hts⟩ (sX7_addToken l dC dI _ L cid K N tW sK sV vc11 p0 z_24 a1_28 z_28 I_15 q0 (by omega) (by omega) (by omega)) (cwV 3 hts (jgoodV m_832 m_833 m_834 m_677 m_835) rfl rfl rfl (by decide +kernel) ⟨(Nat.le_of_ble_eq_true rfl), (Nat.le_of_ble_eq_true rfl)⟩) ⟨xP_blind, xrecv hK hP q0 rfl rfl, fun U hU hW => ⟨rfl, xP_of hU hW hP hK hD hX hS (fun _ h => h) hA⟩⟩ rfl rfl hl.1 rfl (lv_room (Nat.le_of_ble_eq_true rfl)) dX7_scan_81 ⟨(Nat.le_of_ble_eq_true rfl), (Nat.le_of_ble_eq_true rfl)⟩) hD hS hA (fun v_33 H locs w_31 hP hK hD hS => ?_)
                  obtain ⟨I_35, f_34⟩ := w_31
                  have hP : va_P (dC, dI) vwCl (xG L cid K N v_33) H := hP
                  have hD : va_D A (xG L cid K N v_33) := hD
                  refine lv_iload hx hb dX7_scan_84 (lv_at hl 0 rfl) ?_
                  refine lv_istore_n (i := 1) (lv' := [(1, .int (iI z_28)), (4, .int (iI z_28)), (2, .int (iI z_24)), (3, .int (iI a3_11)), (0, .ref p0.toNat)]) hx hb dX7_scan_86 rfl hl (by decide) rfl (fun ls hl => ?_)
                  refine lv_iinc (v := iI (a3_11 + 1)) (lv' := [(3, .int (iI (a3_11 + 1))), (1, .int (iI z_28)), (4, .int (iI z_28)), (2, .int (iI z_24)), (0, .ref p0.toNat)]) hx hb dX7_scan_87 hl (k := 3) rfl (iI_add _ _) (by decide) rfl (fun ls hl => ?_)
                  refine lv_goto (tgt := 11) hx hb dX7_scan_90 (by decide) ?_
                  exact ih11 (a3_11 + 1) z_24 z_28 v_33 H locs ls (by omega) (by omega) (by omega) (by omega) (fr_tr f_34 rfl (fr_tr f_14 rfl fr_rf)) I_35 hP hD hS (lv_sub hl [0, 3, 1, 4] rfl)
                refine xr_icmp_ge (tgt := 62) hx hb dX7_scan_33 (by decide) (by omega) (by omega) (fun h_36 => ?_) (fun h_36 => ?_)
                · exact J62 H locs ls hP hD hS hl
                · refine lv_aload_n hx hb dX7_scan_36 rfl (lv_at hl 3 rfl) ?_
                  refine lv_iload_n hx hb dX7_scan_37 rfl (lv_at hl 2 rfl) ?_
                  refine jc_i (va_runV (As := [.int (iI a1_28)]) (rest := []) ⟨hx, hb, hml, hown, hts⟩ (sX7_byteAt l dC dI _ L cid K N tW sK sV vc11 p0 a1_28 I_15 q0 (by omega)) (cwV 1 hts (jgoodV m_728 m_729 m_730 m_677 m_731) rfl rfl rfl (by decide +kernel) ⟨(Nat.le_of_ble_eq_true rfl), (Nat.le_of_ble_eq_true rfl)⟩) ⟨xP_blind, xrecv hK hP q0 rfl rfl, fun U hU hW => ⟨rfl, xP_of hU hW hP hK hD hX hS (fun _ h => h) hA⟩⟩ rfl rfl hl.1 rfl (lv_room (Nat.le_of_ble_eq_true rfl)) dX7_scan_38 ⟨(Nat.le_of_ble_eq_true rfl), (Nat.le_of_ble_eq_true rfl)⟩) hP hS hA (fun r_37 H locs w_38 hP hS => ?_)
                  obtain ⟨z_39, rfl, h_40⟩ := w_38
                  refine lv_bipush (v := iI 32) hx hb dX7_scan_41 rfl ?_
                  have J56 : ∀ (H : Heap) (locs : List Loc) (ls : Array Slot), va_P (dC, dI) vwCl (xG L cid K N vc11) H → va_D A (xG L cid K N vc11) → va_S A s.heap H locs → lv_has ls 5 [(3, .int (iI a3_11)), (2, .int (iI a2_11)), (1, .int (iI a1_28)), (0, .ref p0.toNat)] → W p l e ({ frames := 7, cells := 0, slots := 0, locals := 157 }) s m ([.ref p0.toNat] : List Value).toArray below meth c H locs 0 0 Q (F0 m 56 ls []) := by
                    intro H locs ls hP hD hS hl
                    refine lv_iinc (v := iI (a1_28 + 1)) (lv' := [(1, .int (iI (a1_28 + 1))), (3, .int (iI a3_11)), (2, .int (iI a2_11)), (0, .ref p0.toNat)]) hx hb dX7_scan_56 hl (k := 2) rfl (iI_add _ _) (by decide) rfl (fun ls hl => ?_)
                    refine lv_goto (tgt := 28) hx hb dX7_scan_59 (by decide) ?_
                    exact ih28 (a1_28 + 1) H locs ls (by omega) (by omega) hP hD hS (lv_sub hl [1, 2, 0, 3] rfl)
                  refine xr_icmp_eq (tgt := 56) hx hb dX7_scan_43 (by decide) (by omega) (by omega) (fun h_41 => ?_) (fun h_41 => ?_)
                  · exact J56 H locs ls hP hD hS hl
                  · refine lv_aload_n hx hb dX7_scan_46 rfl (lv_at hl 3 rfl) ?_
                    refine lv_iload_n hx hb dX7_scan_47 rfl (lv_at hl 2 rfl) ?_
                    refine jc_i (va_runV (As := [.int (iI a1_28)]) (rest := []) ⟨hx, hb, hml, hown, hts⟩ (sX7_byteAt l dC dI _ L cid K N tW sK sV vc11 p0 a1_28 I_15 q0 (by omega)) (cwV 1 hts (jgoodV m_728 m_729 m_730 m_677 m_731) rfl rfl rfl (by decide +kernel) ⟨(Nat.le_of_ble_eq_true rfl), (Nat.le_of_ble_eq_true rfl)⟩) ⟨xP_blind, xrecv hK hP q0 rfl rfl, fun U hU hW => ⟨rfl, xP_of hU hW hP hK hD hX hS (fun _ h => h) hA⟩⟩ rfl rfl hl.1 rfl (lv_room (Nat.le_of_ble_eq_true rfl)) dX7_scan_48 ⟨(Nat.le_of_ble_eq_true rfl), (Nat.le_of_ble_eq_true rfl)⟩) hP hS hA (fun r_42 H locs w_43 hP hS => ?_)
                    obtain ⟨z_44, rfl, h_45⟩ := w_43
                    refine lv_bipush (v := iI 10) hx hb dX7_scan_51 rfl ?_
                    refine xr_icmp_ne (tgt := 62) hx hb dX7_scan_53 (by decide) (by omega) (by omega) (fun h_46 => ?_) (fun h_46 => ?_)
                    · exact J62 H locs ls hP hD hS hl
                    · exact J56 H locs ls hP hD hS hl
            exact L28 ((((v p0 1) - a1_11 : Int)).toNat + 1) a1_11 H locs ls (by omega) (by omega) hP hD hS hl
  exact L11 ((((v p0 1) - 0 + 1 : Int)).toNat + 1) 0 1 0 v_1 H locs ls (by omega) (by omega) (by omega) (by omega) fr_rf I_5 hP hD hS hl
set_option maxHeartbeats 2000000 in
set_option maxRecDepth 100000 in
theorem sX7_parse (l : Launch) (dC : Nat → ClassId) (dI : Nat → Nat → Nat) (sz : Nat) (L : List Nat) (cid : Nat → ClassId) (K : Int → Nat) (N : Int → Int) (tW : Nat) (sK sV : Nat → Nat) (v : Int → Int → Int) (p0 : Int) (hI : xI L K N v) (q0 : ok L K p0 7) : Met l yX7_parse (jk yX7_parse cX7_parse 2 (some .int)) ({ frames := 34, cells := 0, slots := 0, locals := 770 }) (va_Pc [.ref p0.toNat] (xP (dC, dI) (xG L cid K N v) (xT cid) tW sK sV sz)) (va_Qi (fun (r : Int32) (u : (Int → Int → Int)) => ∃ z : Int, r = iI z ∧ (xI L K N u) ∧ (fr K [(7, 6), (7, 7), (7, 8), (7, 10), (7, 14), (21, (-1)), (22, (-1)), (23, (-1)), (24, (-1)), (25, (-1)), (26, (-1)), (27, (-1)), (28, (-1))] u v) ∧ (rg z)) (fun u t => va_P (dC, dI) vwCl (xG L cid K N u) t.heap ∧ va_K (dC, dI) vwCl (xT cid) t ∧ va_D (va_A (xG L cid K N v) sz) (xG L cid K N u)) (va_A (xG L cid K N v) sz)) 0 0 (va_A (xG L cid K N v) sz) := by
  refine Met.ofW (cc := cX7_parse) (maxL := 2) (ret := (some .int)) (by decide) rfl ?_
  intro p e s m args below meth c s₁ B hml hv
  obtain ⟨rfl, ⟨hsz, hP, hK, hD0⟩, hX⟩ := hv
  have hx := B.exec
  have hb := B.bytes
  have hr := B.returns
  have hts := atoms_spec (ws := (jk yX7_parse cX7_parse 2 (some .int))) B.pre
  have hj : ∀ w ∈ jw, w.before ([.ref p0.toNat] : List Value).toArray s = true := fun w h => hts w (jm h)
  have hown : s.vm.findClass RX7 = some m.cls := findClass_of_methodNamed B.named
  subst hsz
  have hD := hD0.self (sz := s.heap.size)
  generalize hAe : (va_A (xG L cid K N v) s.heap.size) = A at hD hX ⊢
  have hA : ∀ q : Nat, s.heap.size ≤ q → A q := fun q h => by rw [← hAe]; exact Or.inr h
  have hS : va_S A s.heap s.heap [] := va_S.rf
  have hXa := hX
  have hP : va_P (dC, dI) vwCl (xG L cid K N v) s.heap := hP
  have hl := lv_entry ([.ref p0.toNat]) (n := 2) (Nat.le_of_ble_eq_true rfl)
  rw [lg_entry_eq]
  generalize (lg_sl ([.ref p0.toNat]) ++ List.replicate (2 - (lg_sl ([.ref p0.toNat])).length) Slot.unset).toArray = ls at hl ⊢
  have hl : lv_has ls 2 [(0, .ref p0.toNat)] := hl
  generalize hQ : MQ below (va_Qi (fun (r : Int32) (u : (Int → Int → Int)) => ∃ z : Int, r = iI z ∧ (xI L K N u) ∧ (fr K [(7, 6), (7, 7), (7, 8), (7, 10), (7, 14), (21, (-1)), (22, (-1)), (23, (-1)), (24, (-1)), (25, (-1)), (26, (-1)), (27, (-1)), (28, (-1))] u v) ∧ (rg z)) (fun u t => va_P (dC, dI) vwCl (xG L cid K N u) t.heap ∧ va_K (dC, dI) vwCl (xT cid) t ∧ va_D A (xG L cid K N u)) A) ([.ref p0.toNat] : List Value).toArray s 0 0 A = Q
  suffices ST : ∀ (H : Heap) (locs : List Loc), va_P (dC, dI) vwCl (xG L cid K N v) H → va_S A s.heap H locs → W p l e ({ frames := 34, cells := 0, slots := 0, locals := 770 }) s m ([.ref p0.toNat] : List Value).toArray below meth c H locs 0 0 Q (F0 m 0 ls []) from ST _ _ hP hS
  clear hP hS
  intro H locs hP hS
  refine lv_aload_n hx hb dX7_parse_0 rfl (lv_at hl 0 rfl) ?_
  refine jcg_v (va_runV (As := []) (rest := []) ⟨hx, hb, hml, hown, hts⟩ (sX7_scan l dC dI _ L cid K N tW sK sV v p0 hI q0) (cwV 0 hts (jgoodV m_836 m_837 m_838 m_677 m_839) rfl rfl rfl (by decide +kernel) ⟨(Nat.le_of_ble_eq_true rfl), (Nat.le_of_ble_eq_true rfl)⟩) ⟨xP_blind, xrecv hK hP q0 rfl rfl, fun U hU hW => ⟨rfl, xP_of hU hW hP hK hD hX hS (fun _ h => h) hA⟩⟩ rfl rfl hl.1 rfl (lv_room (Nat.le_of_ble_eq_true rfl)) dX7_parse_1 ⟨(Nat.le_of_ble_eq_true rfl), (Nat.le_of_ble_eq_true rfl)⟩) hD hS hA (fun v_4 H locs w_2 hP hK hD hS => ?_)
  obtain ⟨I_6, f_5⟩ := w_2
  have hP : va_P (dC, dI) vwCl (xG L cid K N v_4) H := hP
  have hD : va_D A (xG L cid K N v_4) := hD
  refine lv_aload_n hx hb dX7_parse_4 rfl (lv_at hl 0 rfl) ?_
  refine lv_iconst (v := iI (-1)) hx hb dX7_parse_5 rfl ?_
  refine px_RX7_50 (y := (-1)) hx hb hj hown hK hP hD hS I_6 q0 ⟨by omega, by omega⟩ dX7_parse_6 (fun v_7 H locs f_8 e_9 o_10 I_11 hP hD hS => ?_)
  refine lv_aload_n hx hb dX7_parse_9 rfl (lv_at hl 0 rfl) ?_
  refine lv_iconst (v := iI 0) hx hb dX7_parse_10 rfl ?_
  refine px_RX7_53 (y := 0) hx hb hj hown hK hP hD hS I_11 q0 ⟨by omega, by omega⟩ dX7_parse_11 (fun v_12 H locs f_13 e_14 o_15 I_16 hP hD hS => ?_)
  refine lv_aload_n hx hb dX7_parse_14 rfl (lv_at hl 0 rfl) ?_
  refine lv_iconst (v := iI 0) hx hb dX7_parse_15 rfl ?_
  refine px_RX7_56 (y := 0) hx hb hj hown hK hP hD hS I_16 q0 ⟨by omega, by omega⟩ dX7_parse_16 (fun v_17 H locs f_18 e_19 o_20 I_21 hP hD hS => ?_)
  refine lv_aload_n hx hb dX7_parse_19 rfl (lv_at hl 0 rfl) ?_
  refine lv_iconst (v := iI 0) hx hb dX7_parse_20 rfl ?_
  refine px_RX7_59 (y := 0) hx hb hj hown hK hP hD hS I_21 q0 ⟨by omega, by omega⟩ dX7_parse_21 (fun v_22 H locs f_23 e_24 o_25 I_26 hP hD hS => ?_)
  refine lv_aload_n hx hb dX7_parse_24 rfl (lv_at hl 0 rfl) ?_
  have h_27 : ok L K (v p0 11) 26 := xf_7_11 hI q0
  have h_28 : N (v p0 11) = 14 := xn_26 hI h_27
  refine gx_RX7_33 (y := v p0 11) hx hb hj hown hK hP q0 ((xf_7_11 I_26 q0).1) (((fr_use q0 f_23 rfl)).trans (((fr_use q0 f_18 rfl)).trans (((fr_use q0 f_13 rfl)).trans (((fr_use q0 f_8 rfl)).trans (fr_use q0 f_5 rfl))))) dX7_parse_25 ?_
  refine lv_iconst (v := iI (-1)) hx hb dX7_parse_28 rfl ?_
  refine jcg_v (va_runS (As := [.ref (v p0 11).toNat, .int (iI (-1))]) (rest := []) ⟨hx, hb, hml, hown, hts⟩ (sJ7_fill_53178_from l dC dI _ L cid K N tW sK sV v_22 (v p0 11) (-1) I_26 h_27 (by omega)) (va_cwS 2 hts (jgoodS m_840 m_841 m_842 m_843) rfl rfl rfl (by decide +kernel) ⟨(Nat.le_of_ble_eq_true rfl), (Nat.le_of_ble_eq_true rfl)⟩) ⟨xP_blind, fun U hU hW => ⟨rfl, xP_of hU hW hP hK hD hX hS (fun _ h => h) hA⟩⟩ rfl rfl hl.1 rfl (lv_room (Nat.le_of_ble_eq_true rfl)) dX7_parse_29 ⟨(Nat.le_of_ble_eq_true rfl), (Nat.le_of_ble_eq_true rfl)⟩) hD hS hA (fun v_32 H locs w_30 hP hK hD hS => ?_)
  obtain ⟨I_34, f_33⟩ := w_30
  have hP : va_P (dC, dI) vwCl (xG L cid K N v_32) H := hP
  have hD : va_D A (xG L cid K N v_32) := hD
  refine lv_iconst (v := iI 0) hx hb dX7_parse_32 rfl ?_
  refine lv_istore_n (i := 1) (lv' := [(1, .int (iI 0)), (0, .ref p0.toNat)]) hx hb dX7_parse_33 rfl hl (by decide) rfl (fun ls hl => ?_)
  have L34 : ∀ (n34 : Nat) (a1_34 : Int) (vc34 : Int → Int → Int) (H : Heap) (locs : List Loc) (ls : Array Slot), (0 ≤ a1_34 ∧ a1_34 ≤ 2147483647) → (0 < (n34 : Int) ∧ (v p0 1) - a1_34 + 1 < (n34 : Int)) → fr K [(7, 7), (7, 8), (7, 10), (7, 14), (25, (-1)), (26, (-1)), (27, (-1)), (28, (-1))] vc34 v_32 → xI L K N vc34 → va_P (dC, dI) vwCl (xG L cid K N vc34) H → va_D A (xG L cid K N vc34) → va_S A s.heap H locs → lv_has ls 2 [(1, .int (iI a1_34)), (0, .ref p0.toNat)] → W p l e ({ frames := 34, cells := 0, slots := 0, locals := 770 }) s m ([.ref p0.toNat] : List Value).toArray below meth c H locs 0 0 Q (F0 m 34 ls []) := by
    intro n34
    induction n34 with
    | zero =>
      intro a1_34 vc34 H locs ls h_35 hm34 f_36 I_37 hP hD hS hl
      exfalso; omega
    | succ n34 ih34 =>
      intro a1_34 vc34 H locs ls h_38 hm34 f_39 I_40 hP hD hS hl
      refine lv_iload_n hx hb dX7_parse_34 rfl (lv_at hl 0 rfl) ?_
      refine lv_aload_n hx hb dX7_parse_35 rfl (lv_at hl 1 rfl) ?_
      have h_41 : 0 ≤ v p0 1 ∧ v p0 1 ≤ 600 := xf_7_1 hI q0
      refine gx_RX7_43 (y := v p0 1) hx hb hj hown hK hP q0 (((fr_use q0 f_39 rfl)).trans (((fr_use q0 f_33 rfl)).trans (((fr_use q0 f_23 rfl)).trans (((fr_use q0 f_18 rfl)).trans (((fr_use q0 f_13 rfl)).trans (((fr_use q0 f_8 rfl)).trans (fr_use q0 f_5 rfl))))))) dX7_parse_36 ?_
      refine xr_icmp_gt (tgt := 67) hx hb dX7_parse_39 (by decide) (by omega) (by omega) (fun h_42 => ?_) (fun h_42 => ?_)
      · refine lv_aload_n hx hb dX7_parse_67 rfl (lv_at hl 1 rfl) ?_
        have h_43 : (-2147483648) ≤ vc34 p0 8 ∧ vc34 p0 8 ≤ 2147483647 := xf_7_8 I_40 q0
        refine gx_RX7_50 (y := vc34 p0 8) hx hb hj hown hK hP q0 rfl dX7_parse_68 ?_
        rw [← hQ]
        exact W.iret (v := iI (vc34 p0 8)) hx hb hr (fun t ht hW => ⟨⟨iI (vc34 p0 8), vc34, rfl, ⟨vc34 p0 8, rfl, I_40, (fr_tr f_39 rfl (fr_tr f_33 rfl (fr_tr f_23 rfl (fr_tr f_18 rfl (fr_tr f_13 rfl (fr_tr f_8 rfl (fr_tr f_5 rfl fr_rf))))))), by omega⟩, by rw [ht]; exact hP, va_K.moved hW.alike hK, hD⟩, hS.F ht⟩) hS.2.2 dX7_parse_71
      · refine lv_aload_n hx hb dX7_parse_42 rfl (lv_at hl 1 rfl) ?_
        have h_44 : (-2147483648) ≤ vc34 p0 8 ∧ vc34 p0 8 ≤ 2147483647 := xf_7_8 I_40 q0
        refine gx_RX7_50 (y := vc34 p0 8) hx hb hj hown hK hP q0 rfl dX7_parse_43 ?_
        refine lv_iconst (v := iI (-1)) hx hb dX7_parse_46 rfl ?_
        refine xr_icmp_ne (tgt := 67) hx hb dX7_parse_47 (by decide) (by omega) (by omega) (fun h_45 => ?_) (fun h_45 => ?_)
        · refine lv_aload_n hx hb dX7_parse_67 rfl (lv_at hl 1 rfl) ?_
          refine gx_RX7_50 (y := vc34 p0 8) hx hb hj hown hK hP q0 rfl dX7_parse_68 ?_
          rw [← hQ]
          exact W.iret (v := iI (vc34 p0 8)) hx hb hr (fun t ht hW => ⟨⟨iI (vc34 p0 8), vc34, rfl, ⟨vc34 p0 8, rfl, I_40, (fr_tr f_39 rfl (fr_tr f_33 rfl (fr_tr f_23 rfl (fr_tr f_18 rfl (fr_tr f_13 rfl (fr_tr f_8 rfl (fr_tr f_5 rfl fr_rf))))))), by omega⟩, by rw [ht]; exact hP, va_K.moved hW.alike hK, hD⟩, hS.F ht⟩) hS.2.2 dX7_parse_71
        · refine lv_aload_n hx hb dX7_parse_50 rfl (lv_at hl 1 rfl) ?_
          refine jc_i (va_runV (As := []) (rest := []) ⟨hx, hb, hml, hown, hts⟩ (sX7_kind l dC dI _ L cid K N tW sK sV vc34 p0 I_40 q0) (cwV 0 hts (jgoodV m_674 m_675 m_676 m_677 m_678) rfl rfl rfl (by decide +kernel) ⟨(Nat.le_of_ble_eq_true rfl), (Nat.le_of_ble_eq_true rfl)⟩) ⟨xP_blind, xrecv hK hP q0 rfl rfl, fun U hU hW => ⟨rfl, xP_of hU hW hP hK hD hX hS (fun _ h => h) hA⟩⟩ rfl rfl hl.1 rfl (lv_room (Nat.le_of_ble_eq_true rfl)) dX7_parse_51 ⟨(Nat.le_of_ble_eq_true rfl), (Nat.le_of_ble_eq_true rfl)⟩) hP hS hA (fun r_46 H locs w_47 hP hS => ?_)
          obtain ⟨z_48, rfl, h_49, h_50⟩ := w_47
          have h_51 : (-2147483648) ≤ vc34 p0 7 ∧ vc34 p0 7 ≤ 2147483647 := xf_7_7 I_40 q0
          refine xr_if_eq (tgt := 67) hx hb dX7_parse_54 (by decide) (by omega) (fun h_52 => ?_) (fun h_52 => ?_)
          · refine lv_aload_n hx hb dX7_parse_67 rfl (lv_at hl 1 rfl) ?_
            refine gx_RX7_50 (y := vc34 p0 8) hx hb hj hown hK hP q0 rfl dX7_parse_68 ?_
            rw [← hQ]
            exact W.iret (v := iI (vc34 p0 8)) hx hb hr (fun t ht hW => ⟨⟨iI (vc34 p0 8), vc34, rfl, ⟨vc34 p0 8, rfl, I_40, (fr_tr f_39 rfl (fr_tr f_33 rfl (fr_tr f_23 rfl (fr_tr f_18 rfl (fr_tr f_13 rfl (fr_tr f_8 rfl (fr_tr f_5 rfl fr_rf))))))), by omega⟩, by rw [ht]; exact hP, va_K.moved hW.alike hK, hD⟩, hS.F ht⟩) hS.2.2 dX7_parse_71
          · refine lv_aload_n hx hb dX7_parse_57 rfl (lv_at hl 1 rfl) ?_
            refine jcg_v (va_runV (As := []) (rest := []) ⟨hx, hb, hml, hown, hts⟩ (sX7_readClause l dC dI _ L cid K N tW sK sV vc34 p0 I_40 q0) (cwV 0 hts (jgoodV m_844 m_845 m_846 m_677 m_847) rfl rfl rfl (by decide +kernel) ⟨(Nat.le_of_ble_eq_true rfl), (Nat.le_of_ble_eq_true rfl)⟩) ⟨xP_blind, xrecv hK hP q0 rfl rfl, fun U hU hW => ⟨rfl, xP_of hU hW hP hK hD hX hS (fun _ h => h) hA⟩⟩ rfl rfl hl.1 rfl (lv_room (Nat.le_of_ble_eq_true rfl)) dX7_parse_58 ⟨(Nat.le_of_ble_eq_true rfl), (Nat.le_of_ble_eq_true rfl)⟩) hD hS hA (fun v_56 H locs w_54 hP hK hD hS => ?_)
            obtain ⟨I_58, f_57⟩ := w_54
            have hP : va_P (dC, dI) vwCl (xG L cid K N v_56) H := hP
            have hD : va_D A (xG L cid K N v_56) := hD
            refine lv_iinc (v := iI (a1_34 + 1)) (lv' := [(1, .int (iI (a1_34 + 1))), (0, .ref p0.toNat)]) hx hb dX7_parse_61 hl (k := 0) rfl (iI_add _ _) (by decide) rfl (fun ls hl => ?_)
            refine lv_goto (tgt := 34) hx hb dX7_parse_64 (by decide) ?_
            exact ih34 (a1_34 + 1) v_56 H locs ls (by omega) (by omega) (fr_tr f_57 rfl (fr_tr f_39 rfl fr_rf)) I_58 hP hD hS hl
  exact L34 ((((v p0 1) - 0 + 1 : Int)).toNat + 1) 0 v_32 H locs ls (by omega) (by omega) fr_rf I_34 hP hD hS hl
set_option maxHeartbeats 2000000 in
set_option maxRecDepth 100000 in
theorem sX8_forgetNames (l : Launch) (dC : Nat → ClassId) (dI : Nat → Nat → Nat) (sz : Nat) (L : List Nat) (cid : Nat → ClassId) (K : Int → Nat) (N : Int → Int) (tW : Nat) (sK sV : Nat → Nat) (v : Int → Int → Int) (p0 : Int) (hI : xI L K N v) (q0 : ok L K p0 8) : Met l yX8_forgetNames (jk yX8_forgetNames cX8_forgetNames 1 none) ({ frames := 1, cells := 0, slots := 0, locals := 23 }) (va_Pc [.ref p0.toNat] (xP (dC, dI) (xG L cid K N v) (xT cid) tW sK sV sz)) (va_Qv (fun (u : (Int → Int → Int)) => (xI L K N u) ∧ (fr K [(33, (-1))] u v)) (fun u t => va_P (dC, dI) vwCl (xG L cid K N u) t.heap ∧ va_K (dC, dI) vwCl (xT cid) t ∧ va_D (va_A (xG L cid K N v) sz) (xG L cid K N u)) (va_A (xG L cid K N v) sz)) 0 0 (va_A (xG L cid K N v) sz) := by
  refine Met.ofW (cc := cX8_forgetNames) (maxL := 1) (ret := none) (by decide) rfl ?_
  intro p e s m args below meth c s₁ B hml hv
  obtain ⟨rfl, ⟨hsz, hP, hK, hD0⟩, hX⟩ := hv
  have hx := B.exec
  have hb := B.bytes
  have hr := B.returns
  have hts := atoms_spec (ws := (jk yX8_forgetNames cX8_forgetNames 1 none)) B.pre
  have hj : ∀ w ∈ jw, w.before ([.ref p0.toNat] : List Value).toArray s = true := fun w h => hts w (jm h)
  have hown : s.vm.findClass RX8 = some m.cls := findClass_of_methodNamed B.named
  subst hsz
  have hD := hD0.self (sz := s.heap.size)
  generalize hAe : (va_A (xG L cid K N v) s.heap.size) = A at hD hX ⊢
  have hA : ∀ q : Nat, s.heap.size ≤ q → A q := fun q h => by rw [← hAe]; exact Or.inr h
  have hS : va_S A s.heap s.heap [] := va_S.rf
  have hXa := hX
  have hP : va_P (dC, dI) vwCl (xG L cid K N v) s.heap := hP
  have hl := lv_entry ([.ref p0.toNat]) (n := 1) (Nat.le_of_ble_eq_true rfl)
  rw [lg_entry_eq]
  generalize (lg_sl ([.ref p0.toNat]) ++ List.replicate (1 - (lg_sl ([.ref p0.toNat])).length) Slot.unset).toArray = ls at hl ⊢
  have hl : lv_has ls 1 [(0, .ref p0.toNat)] := hl
  generalize hQ : MQ below (va_Qv (fun (u : (Int → Int → Int)) => (xI L K N u) ∧ (fr K [(33, (-1))] u v)) (fun u t => va_P (dC, dI) vwCl (xG L cid K N u) t.heap ∧ va_K (dC, dI) vwCl (xT cid) t ∧ va_D A (xG L cid K N u)) A) ([.ref p0.toNat] : List Value).toArray s 0 0 A = Q
  suffices ST : ∀ (H : Heap) (locs : List Loc), va_P (dC, dI) vwCl (xG L cid K N v) H → va_S A s.heap H locs → W p l e ({ frames := 1, cells := 0, slots := 0, locals := 23 }) s m ([.ref p0.toNat] : List Value).toArray below meth c H locs 0 0 Q (F0 m 0 ls []) from ST _ _ hP hS
  clear hP hS
  intro H locs hP hS
  refine lv_aload_n hx hb dX8_forgetNames_0 rfl (lv_at hl 0 rfl) ?_
  have h_1 : ok L K (v p0 6) 33 := xf_8_6 hI q0
  have h_2 : N (v p0 6) = 9 := xn_33 hI h_1
  refine gx_RX8_27 (y := v p0 6) hx hb hj hown hK hP q0 ((xf_8_6 hI q0).1) rfl dX8_forgetNames_1 ?_
  refine lv_iconst (v := iI 0) hx hb dX8_forgetNames_4 rfl ?_
  refine jcg_v (va_runS (As := [.ref (v p0 6).toNat, .int (iI 0)]) (rest := []) ⟨hx, hb, hml, hown, hts⟩ (sJ7_fill_53178_names l dC dI _ L cid K N tW sK sV v (v p0 6) 0 hI h_1 (by omega)) (va_cwS 2 hts (jgoodS m_848 m_841 m_842 m_843) rfl rfl rfl (by decide +kernel) ⟨(Nat.le_of_ble_eq_true rfl), (Nat.le_of_ble_eq_true rfl)⟩) ⟨xP_blind, fun U hU hW => ⟨rfl, xP_of hU hW hP hK hD hX hS (fun _ h => h) hA⟩⟩ rfl rfl hl.1 rfl (lv_room (Nat.le_of_ble_eq_true rfl)) dX8_forgetNames_5 ⟨(Nat.le_of_ble_eq_true rfl), (Nat.le_of_ble_eq_true rfl)⟩) hD hS hA (fun v_6 H locs w_4 hP hK hD hS => ?_)
  obtain ⟨I_8, f_7⟩ := w_4
  have hP : va_P (dC, dI) vwCl (xG L cid K N v_6) H := hP
  have hD : va_D A (xG L cid K N v_6) := hD
  rw [← hQ]
  exact W.vret hx hb hr (fun t ht hW => ⟨⟨v_6, rfl, ⟨I_8, (fr_tr f_7 rfl fr_rf)⟩, by rw [ht]; exact hP, va_K.moved hW.alike hK, hD⟩, hS.F ht⟩) hS.2.2 dX8_forgetNames_8
set_option maxHeartbeats 2000000 in
set_option maxRecDepth 100000 in
theorem sX3_shift (l : Launch) (dC : Nat → ClassId) (dI : Nat → Nat → Nat) (sz : Nat) (L : List Nat) (cid : Nat → ClassId) (K : Int → Nat) (N : Int → Int) (tW : Nat) (sK sV : Nat → Nat) (v : Int → Int → Int) (p0 : Int) (p1 : Int) (p2 : Int) (hI : xI L K N v) (q0 : ok L K p0 3) (q1 : ok L K p1 52) (q2 : rg p2) : Met l yX3_shift (jk yX3_shift cX3_shift 7 none) ({ frames := 1, cells := 0, slots := 0, locals := 40 }) (va_Pc [.ref p0.toNat, .ref p1.toNat, .int (iI p2)] (xP (dC, dI) (xG L cid K N v) (xT cid) tW sK sV sz)) (va_Qv (fun (u : (Int → Int → Int)) => (xI L K N u) ∧ (fr K [(52, (-1))] u v)) (fun u t => va_P (dC, dI) vwCl (xG L cid K N u) t.heap ∧ va_K (dC, dI) vwCl (xT cid) t ∧ va_D (va_A (xG L cid K N v) sz) (xG L cid K N u)) (va_A (xG L cid K N v) sz)) 0 0 (va_A (xG L cid K N v) sz) := by
  refine Met.ofW (cc := cX3_shift) (maxL := 7) (ret := none) (by decide) rfl ?_
  intro p e s m args below meth c s₁ B hml hv
  obtain ⟨rfl, ⟨hsz, hP, hK, hD0⟩, hX⟩ := hv
  have hx := B.exec
  have hb := B.bytes
  have hr := B.returns
  have hts := atoms_spec (ws := (jk yX3_shift cX3_shift 7 none)) B.pre
  have hj : ∀ w ∈ jw, w.before ([.ref p0.toNat, .ref p1.toNat, .int (iI p2)] : List Value).toArray s = true := fun w h => hts w (jm h)
  have hown : s.vm.findClass RX3 = some m.cls := findClass_of_methodNamed B.named
  subst hsz
  have hD := hD0.self (sz := s.heap.size)
  generalize hAe : (va_A (xG L cid K N v) s.heap.size) = A at hD hX ⊢
  have hA : ∀ q : Nat, s.heap.size ≤ q → A q := fun q h => by rw [← hAe]; exact Or.inr h
  have hS : va_S A s.heap s.heap [] := va_S.rf
  have hXa := hX
  have hP : va_P (dC, dI) vwCl (xG L cid K N v) s.heap := hP
  have hl := lv_entry ([.ref p0.toNat, .ref p1.toNat, .int (iI p2)]) (n := 7) (Nat.le_of_ble_eq_true rfl)
  rw [lg_entry_eq]
  generalize (lg_sl ([.ref p0.toNat, .ref p1.toNat, .int (iI p2)]) ++ List.replicate (7 - (lg_sl ([.ref p0.toNat, .ref p1.toNat, .int (iI p2)])).length) Slot.unset).toArray = ls at hl ⊢
  have hl : lv_has ls 7 [(0, .ref p0.toNat), (1, .ref p1.toNat), (2, .int (iI p2))] := hl
  generalize hQ : MQ below (va_Qv (fun (u : (Int → Int → Int)) => (xI L K N u) ∧ (fr K [(52, (-1))] u v)) (fun u t => va_P (dC, dI) vwCl (xG L cid K N u) t.heap ∧ va_K (dC, dI) vwCl (xT cid) t ∧ va_D A (xG L cid K N u)) A) ([.ref p0.toNat, .ref p1.toNat, .int (iI p2)] : List Value).toArray s 0 0 A = Q
  suffices ST : ∀ (H : Heap) (locs : List Loc), va_P (dC, dI) vwCl (xG L cid K N v) H → va_S A s.heap H locs → W p l e ({ frames := 1, cells := 0, slots := 0, locals := 40 }) s m ([.ref p0.toNat, .ref p1.toNat, .int (iI p2)] : List Value).toArray below meth c H locs 0 0 Q (F0 m 0 ls []) from ST _ _ hP hS
  clear hP hS
  intro H locs hP hS
  have h_1 : N p1 = 60 := xn_52 hI q1
  refine lv_iload_n hx hb dX3_shift_0 rfl (lv_at hl 2 rfl) ?_
  refine lv_istore_n (i := 3) (lv' := [(3, .int (iI p2)), (0, .ref p0.toNat), (1, .ref p1.toNat), (2, .int (iI p2))]) hx hb dX3_shift_1 rfl hl (by decide) rfl (fun ls hl => ?_)
  refine lv_iconst (v := iI 0) hx hb dX3_shift_2 rfl ?_
  refine lv_istore (i := 4) (lv' := [(4, .int (iI 0)), (3, .int (iI p2)), (0, .ref p0.toNat), (1, .ref p1.toNat), (2, .int (iI p2))]) hx hb dX3_shift_3 hl (by decide) rfl (fun ls hl => ?_)
  have L5 : ∀ (n5 : Nat) (a4_5 a3_5 : Int) (vc5 : Int → Int → Int) (H : Heap) (locs : List Loc) (ls : Array Slot), (0 ≤ a4_5 ∧ a4_5 ≤ 2147483647) → ((-2147483648) ≤ a3_5 ∧ a3_5 ≤ 2147483647) → (0 < (n5 : Int) ∧ (v p0 5) - a4_5 < (n5 : Int)) → fr K [(52, (-1))] vc5 v → xI L K N vc5 → va_P (dC, dI) vwCl (xG L cid K N vc5) H → va_D A (xG L cid K N vc5) → va_S A s.heap H locs → lv_has ls 7 [(4, .int (iI a4_5)), (3, .int (iI a3_5)), (0, .ref p0.toNat), (1, .ref p1.toNat), (2, .int (iI p2))] → W p l e ({ frames := 1, cells := 0, slots := 0, locals := 40 }) s m ([.ref p0.toNat, .ref p1.toNat, .int (iI p2)] : List Value).toArray below meth c H locs 0 0 Q (F0 m 5 ls []) := by
    intro n5
    induction n5 with
    | zero =>
      intro a4_5 a3_5 vc5 H locs ls h_2 h_3 hm5 f_4 I_5 hP hD hS hl
      exfalso; omega
    | succ n5 ih5 =>
      intro a4_5 a3_5 vc5 H locs ls h_6 h_7 hm5 f_8 I_9 hP hD hS hl
      refine lv_iload hx hb dX3_shift_5 (lv_at hl 0 rfl) ?_
      refine lv_aload_n hx hb dX3_shift_7 rfl (lv_at hl 2 rfl) ?_
      have h_10 : (-2147483648) ≤ v p0 5 ∧ v p0 5 ≤ 2147483647 := xf_3_5 hI q0
      refine gx_RX3_27 (y := v p0 5) hx hb hj hown hK hP q0 (fr_use q0 f_8 rfl) dX3_shift_8 ?_
      refine xr_icmp_ge (tgt := 87) hx hb dX3_shift_11 (by decide) (by omega) (by omega) (fun h_11 => ?_) (fun h_11 => ?_)
      · rw [← hQ]
        exact W.vret hx hb hr (fun t ht hW => ⟨⟨vc5, rfl, ⟨I_9, (fr_tr f_8 rfl fr_rf)⟩, by rw [ht]; exact hP, va_K.moved hW.alike hK, hD⟩, hS.F ht⟩) hS.2.2 dX3_shift_87
      · refine lv_iload hx hb dX3_shift_14 (lv_at hl 0 rfl) ?_
        refine lv_bipush (v := iI 60) hx hb dX3_shift_16 rfl ?_
        refine xr_icmp_ge (tgt := 87) hx hb dX3_shift_18 (by decide) (by omega) (by omega) (fun h_12 => ?_) (fun h_12 => ?_)
        · rw [← hQ]
          exact W.vret hx hb hr (fun t ht hW => ⟨⟨vc5, rfl, ⟨I_9, (fr_tr f_8 rfl fr_rf)⟩, by rw [ht]; exact hP, va_K.moved hW.alike hK, hD⟩, hS.F ht⟩) hS.2.2 dX3_shift_87
        · refine lv_iload hx hb dX3_shift_21 (lv_at hl 0 rfl) ?_
          refine lv_aload_n hx hb dX3_shift_23 rfl (lv_at hl 3 rfl) ?_
          refine lx_52 (y := 60) hx hb hK hP q1 (by omega) (by omega) dX3_shift_24 ?_
          refine xr_icmp_ge (tgt := 87) hx hb dX3_shift_25 (by decide) (by omega) (by omega) (fun h_13 => ?_) (fun h_13 => ?_)
          · exfalso; omega
          · refine lv_aload_n hx hb dX3_shift_28 rfl (lv_at hl 3 rfl) ?_
            refine lv_iload hx hb dX3_shift_29 (lv_at hl 0 rfl) ?_
            have h_14 : (-2147483648) ≤ vc5 p1 a4_5 ∧ vc5 p1 a4_5 ≤ 2147483647 := xe_52 I_9 q1 (by omega)
            refine ax_52 (y := vc5 p1 a4_5) hx hb hK hP q1 (by omega) (by omega) (by omega) rfl dX3_shift_31 ?_
            refine lv_aload_n hx hb dX3_shift_32 rfl (lv_at hl 2 rfl) ?_
            have h_15 : ok L K (v p0 4) 52 := xf_3_4 hI q0
            have h_16 : N (v p0 4) = 60 := xn_52 hI h_15
            refine gx_RX3_24 (y := v p0 4) hx hb hj hown hK hP q0 ((xf_3_4 I_9 q0).1) (fr_use q0 f_8 rfl) dX3_shift_33 ?_
            refine lv_iload hx hb dX3_shift_36 (lv_at hl 0 rfl) ?_
            have h_17 : (-2147483648) ≤ vc5 (v p0 4) a4_5 ∧ vc5 (v p0 4) a4_5 ≤ 2147483647 := xe_52 I_9 h_15 (by omega)
            refine ax_52 (y := vc5 (v p0 4) a4_5) hx hb hK hP h_15 (by omega) (by omega) (by omega) rfl dX3_shift_38 ?_
            refine xr_sub hx hb dX3_shift_39 ?_
            refine xr_kept (fun z_18 h_19 h_20 => ?_)
            refine lv_istore (i := 5) (lv' := [(5, .int (iI z_18)), (4, .int (iI a4_5)), (3, .int (iI a3_5)), (0, .ref p0.toNat), (1, .ref p1.toNat), (2, .int (iI p2))]) hx hb dX3_shift_40 hl (by decide) rfl (fun ls hl => ?_)
            refine lv_iload_n hx hb dX3_shift_42 rfl (lv_at hl 2 rfl) ?_
            refine lv_iload hx hb dX3_shift_43 (lv_at hl 0 rfl) ?_
            refine va_mabs hx hb (by rw [hml]; exact hl.1.symm) hown (hj _ m_849) (hj _ m_850) (hj _ m_762) (hj _ m_851) (Nat.le_of_ble_eq_true rfl) (Nat.le_of_ble_eq_true rfl) (Nat.le_of_ble_eq_true rfl) (Nat.le_of_ble_eq_true rfl) dX3_shift_45 ?_
            refine xr_any (fun z_21 h_22 => ?_)
            refine va_mmin hx hb (by rw [hml]; exact hl.1.symm) hown (hj _ m_852) (hj _ m_765) (hj _ m_762) (hj _ m_766) (Nat.le_of_ble_eq_true rfl) (Nat.le_of_ble_eq_true rfl) (Nat.le_of_ble_eq_true rfl) (Nat.le_of_ble_eq_true rfl) dX3_shift_48 ?_
            refine xm_min (by omega) (by omega) (fun z_23 h_24 => ?_)
            refine lv_istore (i := 6) (lv' := [(6, .int (iI z_23)), (5, .int (iI z_18)), (4, .int (iI a4_5)), (3, .int (iI a3_5)), (0, .ref p0.toNat), (1, .ref p1.toNat), (2, .int (iI p2))]) hx hb dX3_shift_51 hl (by decide) rfl (fun ls hl => ?_)
            refine lv_aload_n hx hb dX3_shift_53 rfl (lv_at hl 4 rfl) ?_
            refine gx_RX3_24 (y := v p0 4) hx hb hj hown hK hP q0 ((xf_3_4 I_9 q0).1) (fr_use q0 f_8 rfl) dX3_shift_54 ?_
            refine lv_iload hx hb dX3_shift_57 (lv_at hl 2 rfl) ?_
            refine lv_dup2_11 hx hb dX3_shift_59 rfl rfl ?_
            refine ax_52 (y := vc5 (v p0 4) a4_5) hx hb hK hP h_15 (by omega) (by omega) (by omega) rfl dX3_shift_60 ?_
            refine lv_iload hx hb dX3_shift_61 (lv_at hl 1 rfl) ?_
            have J74 : ∀ (s0_74 : Int) (H : Heap) (locs : List Loc) (ls : Array Slot), ((-2147483648) ≤ s0_74 ∧ s0_74 ≤ 2147483647) → va_P (dC, dI) vwCl (xG L cid K N vc5) H → va_D A (xG L cid K N vc5) → va_S A s.heap H locs → lv_has ls 7 [(6, .int (iI z_23)), (5, .int (iI z_18)), (4, .int (iI a4_5)), (3, .int (iI a3_5)), (0, .ref p0.toNat), (1, .ref p1.toNat), (2, .int (iI p2))] → W p l e ({ frames := 1, cells := 0, slots := 0, locals := 40 }) s m ([.ref p0.toNat, .ref p1.toNat, .int (iI p2)] : List Value).toArray below meth c H locs 0 0 Q (F0 m 74 ls [.int (iI s0_74), .int (iI (vc5 (v p0 4) a4_5)), .int (iI a4_5), .ref (v p0 4).toNat]) := by
              intro s0_74 H locs ls h_25 hP hD hS hl
              refine xr_add hx hb dX3_shift_74 ?_
              refine xr_kept (fun z_26 h_27 h_28 => ?_)
              refine sx_52 (y := z_26) hx hb hK hP hD hS I_9 h_15 (by omega) (by omega) (by omega) ⟨by omega, by omega⟩ dX3_shift_75 (fun v_29 H locs f_30 e_31 o_32 I_33 hP hD hS => ?_)
              refine lv_iload_n hx hb dX3_shift_76 rfl (lv_at hl 3 rfl) ?_
              refine lv_iload hx hb dX3_shift_77 (lv_at hl 0 rfl) ?_
              refine xr_sub hx hb dX3_shift_79 ?_
              refine xr_kept (fun z_34 h_35 h_36 => ?_)
              refine lv_istore_n (i := 3) (lv' := [(3, .int (iI z_34)), (6, .int (iI z_23)), (5, .int (iI z_18)), (4, .int (iI a4_5)), (0, .ref p0.toNat), (1, .ref p1.toNat), (2, .int (iI p2))]) hx hb dX3_shift_80 rfl hl (by decide) rfl (fun ls hl => ?_)
              refine lv_iinc (v := iI (a4_5 + 1)) (lv' := [(4, .int (iI (a4_5 + 1))), (3, .int (iI z_34)), (6, .int (iI z_23)), (5, .int (iI z_18)), (0, .ref p0.toNat), (1, .ref p1.toNat), (2, .int (iI p2))]) hx hb dX3_shift_81 hl (k := 3) rfl (iI_add _ _) (by decide) rfl (fun ls hl => ?_)
              refine lv_goto (tgt := 5) hx hb dX3_shift_84 (by decide) ?_
              exact ih5 (a4_5 + 1) z_34 v_29 H locs ls (by omega) (by omega) (by omega) (fr_tr f_30 rfl (fr_tr f_8 rfl fr_rf)) I_33 hP hD hS (lv_sub hl [0, 1, 4, 5, 6] rfl)
            refine xr_if_ge (tgt := 72) hx hb dX3_shift_63 (by decide) (by omega) (fun h_37 => ?_) (fun h_37 => ?_)
            · refine lv_iload hx hb dX3_shift_72 (lv_at hl 0 rfl) ?_
              exact J74 z_23 H locs ls (by omega) hP hD hS hl
            · refine lv_iload hx hb dX3_shift_66 (lv_at hl 0 rfl) ?_
              refine lv_ineg hx hb dX3_shift_68 ?_
              refine xr_any (fun z_38 h_39 => ?_)
              refine lv_goto (tgt := 74) hx hb dX3_shift_69 (by decide) ?_
              exact J74 z_38 H locs ls (by omega) hP hD hS hl
  exact L5 ((((v p0 5) - 0 : Int)).toNat + 1) 0 p2 v H locs ls (by omega) (by omega) (by omega) fr_rf hI hP hD hS hl
