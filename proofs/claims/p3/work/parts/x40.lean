set_option maxHeartbeats 2000000 in
set_option maxRecDepth 100000 in
theorem sX1_allow (l : Launch) (dC : Nat → ClassId) (dI : Nat → Nat → Nat) (sz : Nat) (L : List Nat) (cid : Nat → ClassId) (K : Int → Nat) (N : Int → Int) (tW : Nat) (sK sV : Nat → Nat) (v : Int → Int → Int) (p0 : Int) (p1 : Int) (hI : xI L K N v) (q0 : ok L K p0 1) (q1 : rg p1) : Met l yX1_allow (jk yX1_allow cX1_allow 2 none) ({ frames := 0, cells := 0, slots := 0, locals := 0 }) (va_Pc [.ref p0.toNat, .int (iI p1)] (xP (dC, dI) (xG L cid K N v) (xT cid) tW sK sV sz)) (va_Qv (fun (u : (Int → Int → Int)) => (xI L K N u) ∧ (fr K [(58, (-1))] u v)) (fun u t => va_P (dC, dI) vwCl (xG L cid K N u) t.heap ∧ va_K (dC, dI) vwCl (xT cid) t ∧ va_D (va_A (xG L cid K N v) sz) (xG L cid K N u)) (va_A (xG L cid K N v) sz)) 0 0 (va_A (xG L cid K N v) sz) := by
  refine Met.ofW (cc := cX1_allow) (maxL := 2) (ret := none) (by decide) rfl ?_
  intro p e s m args below meth c s₁ B hml hv
  obtain ⟨rfl, ⟨hsz, hP, hK, hD0⟩, hX⟩ := hv
  have hx := B.exec
  have hb := B.bytes
  have hr := B.returns
  have hts := atoms_spec (ws := (jk yX1_allow cX1_allow 2 none)) B.pre
  have hj : ∀ w ∈ jw, w.before ([.ref p0.toNat, .int (iI p1)] : List Value).toArray s = true := fun w h => hts w (jm h)
  have hown : s.vm.findClass RX1 = some m.cls := findClass_of_methodNamed B.named
  subst hsz
  have hD := hD0.self (sz := s.heap.size)
  generalize hAe : (va_A (xG L cid K N v) s.heap.size) = A at hD hX ⊢
  have hA : ∀ q : Nat, s.heap.size ≤ q → A q := fun q h => by rw [← hAe]; exact Or.inr h
  have hS : va_S A s.heap s.heap [] := va_S.rf
  have hXa := hX
  have hP : va_P (dC, dI) vwCl (xG L cid K N v) s.heap := hP
  have hl := lv_entry ([.ref p0.toNat, .int (iI p1)]) (n := 2) (Nat.le_of_ble_eq_true rfl)
  rw [lg_entry_eq]
  generalize (lg_sl ([.ref p0.toNat, .int (iI p1)]) ++ List.replicate (2 - (lg_sl ([.ref p0.toNat, .int (iI p1)])).length) Slot.unset).toArray = ls at hl ⊢
  have hl : lv_has ls 2 [(0, .ref p0.toNat), (1, .int (iI p1))] := hl
  generalize hQ : MQ below (va_Qv (fun (u : (Int → Int → Int)) => (xI L K N u) ∧ (fr K [(58, (-1))] u v)) (fun u t => va_P (dC, dI) vwCl (xG L cid K N u) t.heap ∧ va_K (dC, dI) vwCl (xT cid) t ∧ va_D A (xG L cid K N u)) A) ([.ref p0.toNat, .int (iI p1)] : List Value).toArray s 0 0 A = Q
  suffices ST : ∀ (H : Heap) (locs : List Loc), va_P (dC, dI) vwCl (xG L cid K N v) H → va_S A s.heap H locs → W p l e ({ frames := 0, cells := 0, slots := 0, locals := 0 }) s m ([.ref p0.toNat, .int (iI p1)] : List Value).toArray below meth c H locs 0 0 Q (F0 m 0 ls []) from ST _ _ hP hS
  clear hP hS
  intro H locs hP hS
  refine lv_iload_n hx hb dX1_allow_0 rfl (lv_at hl 1 rfl) ?_
  refine xr_if_lt (tgt := 34) hx hb dX1_allow_1 (by decide) (by omega) (fun h_1 => ?_) (fun h_1 => ?_)
  · rw [← hQ]
    exact W.vret hx hb hr (fun t ht hW => ⟨⟨v, rfl, ⟨hI, fr_rf⟩, by rw [ht]; exact hP, va_K.moved hW.alike hK, hD⟩, hS.F ht⟩) hS.2.2 dX1_allow_34
  · refine lv_iload_n hx hb dX1_allow_4 rfl (lv_at hl 1 rfl) ?_
    refine lv_bipush (v := iI 6) hx hb dX1_allow_5 rfl ?_
    refine xr_icmp_ge (tgt := 34) hx hb dX1_allow_7 (by decide) (by omega) (by omega) (fun h_2 => ?_) (fun h_2 => ?_)
    · rw [← hQ]
      exact W.vret hx hb hr (fun t ht hW => ⟨⟨v, rfl, ⟨hI, fr_rf⟩, by rw [ht]; exact hP, va_K.moved hW.alike hK, hD⟩, hS.F ht⟩) hS.2.2 dX1_allow_34
    · refine lv_aload_n hx hb dX1_allow_10 rfl (lv_at hl 0 rfl) ?_
      have h_3 : 0 ≤ v p0 3 ∧ v p0 3 ≤ 7 := xf_1_3 hI q0
      refine gx_RX1_37 (y := v p0 3) hx hb hj hown hK hP q0 rfl dX1_allow_11 ?_
      refine xr_if_le (tgt := 34) hx hb dX1_allow_14 (by decide) (by omega) (fun h_4 => ?_) (fun h_4 => ?_)
      · rw [← hQ]
        exact W.vret hx hb hr (fun t ht hW => ⟨⟨v, rfl, ⟨hI, fr_rf⟩, by rw [ht]; exact hP, va_K.moved hW.alike hK, hD⟩, hS.F ht⟩) hS.2.2 dX1_allow_34
      · refine lv_aload_n hx hb dX1_allow_17 rfl (lv_at hl 0 rfl) ?_
        have h_5 : ok L K (v p0 6) 58 := xf_1_6 hI q0
        have h_6 : N (v p0 6) = 6 := xn_58 hI h_5
        refine gx_RX1_27 (y := v p0 6) hx hb hj hown hK hP q0 ((xf_1_6 hI q0).1) rfl dX1_allow_18 ?_
        refine lv_iload_n hx hb dX1_allow_21 rfl (lv_at hl 1 rfl) ?_
        refine lv_dup2_11 hx hb dX1_allow_22 rfl rfl ?_
        have h_7 : (-2147483648) ≤ v (v p0 6) p1 ∧ v (v p0 6) p1 ≤ 2147483647 := xe_58 hI h_5 (by omega)
        refine ax_58 (y := v (v p0 6) p1) hx hb hK hP h_5 (by omega) (by omega) (by omega) rfl dX1_allow_23 ?_
        refine lv_iconst (v := iI 1) hx hb dX1_allow_24 rfl ?_
        refine lv_aload_n hx hb dX1_allow_25 rfl (lv_at hl 0 rfl) ?_
        refine gx_RX1_37 (y := v p0 3) hx hb hj hown hK hP q0 rfl dX1_allow_26 ?_
        refine lv_iconst (v := iI 1) hx hb dX1_allow_29 rfl ?_
        refine xr_sub hx hb dX1_allow_30 ?_
        refine lv_ishl hx hb dX1_allow_31 ?_
        refine xr_any (fun z_8 h_9 => ?_)
        refine lv_ior hx hb dX1_allow_32 ?_
        refine xr_any (fun z_10 h_11 => ?_)
        refine sx_58 (y := z_10) hx hb hK hP hD hS hI h_5 (by omega) (by omega) (by omega) ⟨by omega, by omega⟩ dX1_allow_33 (fun v_12 H locs f_13 e_14 o_15 I_16 hP hD hS => ?_)
        rw [← hQ]
        exact W.vret hx hb hr (fun t ht hW => ⟨⟨v_12, rfl, ⟨I_16, (fr_tr f_13 rfl fr_rf)⟩, by rw [ht]; exact hP, va_K.moved hW.alike hK, hD⟩, hS.F ht⟩) hS.2.2 dX1_allow_34
set_option maxHeartbeats 2000000 in
set_option maxRecDepth 100000 in
theorem sX1_handOf (l : Launch) (dC : Nat → ClassId) (dI : Nat → Nat → Nat) (sz : Nat) (L : List Nat) (cid : Nat → ClassId) (K : Int → Nat) (N : Int → Int) (tW : Nat) (sK sV : Nat → Nat) (v : Int → Int → Int) (p0 : Int) (p1 : Int) (hI : xI L K N v) (q0 : ok L K p0 1) (q1 : rg p1) : Met l yX1_handOf (jk yX1_handOf cX1_handOf 3 (some .int)) ({ frames := 1, cells := 0, slots := 0, locals := 21 }) (va_Pc [.ref p0.toNat, .int (iI p1)] (xP (dC, dI) (xG L cid K N v) (xT cid) tW sK sV sz)) (va_Qi (fun (r : Int32) (_ : Unit) => ∃ z : Int, r = iI z ∧ (rg z)) (fun _ _ => True) (va_A [] sz)) 0 0 (va_A [] sz) := by
  refine Met.ofW (cc := cX1_handOf) (maxL := 3) (ret := (some .int)) (by decide) rfl ?_
  intro p e s m args below meth c s₁ B hml hv
  obtain ⟨rfl, ⟨hsz, hP, hK, hD0⟩, hX⟩ := hv
  have hx := B.exec
  have hb := B.bytes
  have hr := B.returns
  have hts := atoms_spec (ws := (jk yX1_handOf cX1_handOf 3 (some .int))) B.pre
  have hj : ∀ w ∈ jw, w.before ([.ref p0.toNat, .int (iI p1)] : List Value).toArray s = true := fun w h => hts w (jm h)
  have hown : s.vm.findClass RX1 = some m.cls := findClass_of_methodNamed B.named
  subst hsz
  have hDw := hD0.self (sz := s.heap.size)
  have hAA : ∀ q : Nat, s.heap.size ≤ q → va_A (xG L cid K N v) s.heap.size q := fun q h => Or.inr h
  have hAw : ∀ q, va_A [] s.heap.size q → va_A (xG L cid K N v) s.heap.size q := ja_nil va_S.rf hAA
  generalize hAe : (va_A [] s.heap.size) = A at hAw ⊢
  have hA : ∀ q : Nat, s.heap.size ≤ q → A q := fun q h => by rw [← hAe]; exact Or.inr h
  have hS : va_S A s.heap s.heap [] := va_S.rf
  have hXa := hX.nar hAw
  have hP : va_P (dC, dI) vwCl (xG L cid K N v) s.heap := hP
  have hl := lv_entry ([.ref p0.toNat, .int (iI p1)]) (n := 3) (Nat.le_of_ble_eq_true rfl)
  rw [lg_entry_eq]
  generalize (lg_sl ([.ref p0.toNat, .int (iI p1)]) ++ List.replicate (3 - (lg_sl ([.ref p0.toNat, .int (iI p1)])).length) Slot.unset).toArray = ls at hl ⊢
  have hl : lv_has ls 3 [(0, .ref p0.toNat), (1, .int (iI p1))] := hl
  generalize hQ : MQ below (va_Qi (fun (r : Int32) (_ : Unit) => ∃ z : Int, r = iI z ∧ (rg z)) (fun _ _ => True) A) ([.ref p0.toNat, .int (iI p1)] : List Value).toArray s 0 0 A = Q
  suffices ST : ∀ (H : Heap) (locs : List Loc), va_P (dC, dI) vwCl (xG L cid K N v) H → va_S A s.heap H locs → W p l e ({ frames := 1, cells := 0, slots := 0, locals := 21 }) s m ([.ref p0.toNat, .int (iI p1)] : List Value).toArray below meth c H locs 0 0 Q (F0 m 0 ls []) from ST _ _ hP hS
  clear hP hS
  intro H locs hP hS
  refine lv_iconst (v := iI 0) hx hb dX1_handOf_0 rfl ?_
  refine lv_istore_n (i := 2) (lv' := [(2, .int (iI 0)), (0, .ref p0.toNat), (1, .int (iI p1))]) hx hb dX1_handOf_1 rfl hl (by decide) rfl (fun ls hl => ?_)
  have L2 : ∀ (n2 : Nat) (a2_2 : Int) (H : Heap) (locs : List Loc) (ls : Array Slot), (0 ≤ a2_2 ∧ a2_2 ≤ 2147483647) → (0 < (n2 : Int) ∧ (v p0 3) - a2_2 < (n2 : Int)) → va_P (dC, dI) vwCl (xG L cid K N v) H → va_S A s.heap H locs → lv_has ls 3 [(2, .int (iI a2_2)), (0, .ref p0.toNat), (1, .int (iI p1))] → W p l e ({ frames := 1, cells := 0, slots := 0, locals := 21 }) s m ([.ref p0.toNat, .int (iI p1)] : List Value).toArray below meth c H locs 0 0 Q (F0 m 2 ls []) := by
    intro n2
    induction n2 with
    | zero =>
      intro a2_2 H locs ls h_1 hm2 hP hS hl
      exfalso; omega
    | succ n2 ih2 =>
      intro a2_2 H locs ls h_2 hm2 hP hS hl
      refine lv_iload_n hx hb dX1_handOf_2 rfl (lv_at hl 0 rfl) ?_
      refine lv_aload_n hx hb dX1_handOf_3 rfl (lv_at hl 1 rfl) ?_
      have h_3 : 0 ≤ v p0 3 ∧ v p0 3 ≤ 7 := xf_1_3 hI q0
      refine gx_RX1_37 (y := v p0 3) hx hb hj hown hK hP q0 rfl dX1_handOf_4 ?_
      refine xr_icmp_ge (tgt := 43) hx hb dX1_handOf_7 (by decide) (by omega) (by omega) (fun h_4 => ?_) (fun h_4 => ?_)
      · refine lv_iconst (v := iI (-1)) hx hb dX1_handOf_43 rfl ?_
        rw [← hQ]
        exact W.iret (v := iI (-1)) hx hb hr (fun t ht hW => ⟨⟨iI (-1), (), rfl, ⟨(-1), rfl, by omega⟩, trivial⟩, hS.F ht⟩) hS.2.2 dX1_handOf_44
      · refine lv_iload_n hx hb dX1_handOf_10 rfl (lv_at hl 0 rfl) ?_
        refine lv_bipush (v := iI 7) hx hb dX1_handOf_11 rfl ?_
        refine xr_icmp_ge (tgt := 43) hx hb dX1_handOf_13 (by decide) (by omega) (by omega) (fun h_5 => ?_) (fun h_5 => ?_)
        · exfalso; omega
        · refine lv_aload_n hx hb dX1_handOf_16 rfl (lv_at hl 1 rfl) ?_
          have h_6 : ok L K (v p0 0) 53 := xf_1_0 hI q0
          have h_7 : N (v p0 0) = 7 := xn_53 hI h_6
          refine gx_RX1_11 (y := v p0 0) hx hb hj hown hK hP q0 ((xf_1_0 hI q0).1) rfl dX1_handOf_17 ?_
          refine lv_iload_n hx hb dX1_handOf_20 rfl (lv_at hl 0 rfl) ?_
          have h_8 : (-2147483648) ≤ v (v p0 0) a2_2 ∧ v (v p0 0) a2_2 ≤ 2147483647 := xe_53 hI h_6 (by omega)
          refine ax_53 (y := v (v p0 0) a2_2) hx hb hK hP h_6 (by omega) (by omega) (by omega) rfl dX1_handOf_21 ?_
          refine lv_iload_n hx hb dX1_handOf_22 rfl (lv_at hl 2 rfl) ?_
          refine xr_icmp_ne (tgt := 37) hx hb dX1_handOf_23 (by decide) (by omega) (by omega) (fun h_9 => ?_) (fun h_9 => ?_)
          · refine lv_iinc (v := iI (a2_2 + 1)) (lv' := [(2, .int (iI (a2_2 + 1))), (0, .ref p0.toNat), (1, .int (iI p1))]) hx hb dX1_handOf_37 hl (k := 0) rfl (iI_add _ _) (by decide) rfl (fun ls hl => ?_)
            refine lv_goto (tgt := 2) hx hb dX1_handOf_40 (by decide) ?_
            exact ih2 (a2_2 + 1) H locs ls (by omega) (by omega) hP hS hl
          · refine lv_aload_n hx hb dX1_handOf_26 rfl (lv_at hl 1 rfl) ?_
            refine lv_aload_n hx hb dX1_handOf_27 rfl (lv_at hl 1 rfl) ?_
            have h_10 : ok L K (v p0 2) 55 := xf_1_2 hI q0
            have h_11 : N (v p0 2) = 7 := xn_55 hI h_10
            refine gx_RX1_18 (y := v p0 2) hx hb hj hown hK hP q0 ((xf_1_2 hI q0).1) rfl dX1_handOf_28 ?_
            refine lv_iload_n hx hb dX1_handOf_31 rfl (lv_at hl 0 rfl) ?_
            have h_12 : (-2147483648) ≤ v (v p0 2) a2_2 ∧ v (v p0 2) a2_2 ≤ 2147483647 := xe_55 hI h_10 (by omega)
            refine ax_55 (y := v (v p0 2) a2_2) hx hb hK hP h_10 (by omega) (by omega) (by omega) rfl dX1_handOf_32 ?_
            refine jc_i (va_runV (As := [.int (iI (v (v p0 2) a2_2))]) (rest := []) ⟨hx, hb, hml, hown, hts⟩ (sX1_handNumber l dC dI _ L cid K N tW sK sV v p0 (v (v p0 2) a2_2) hI q0 (by omega)) (cwV 1 hts (jgoodV m_898 m_899 m_900 m_888 m_901) rfl rfl rfl (by decide +kernel) ⟨(Nat.le_of_ble_eq_true rfl), (Nat.le_of_ble_eq_true rfl)⟩) ⟨xP_blind, xrecv hK hP q0 rfl rfl, fun U hU hW => ⟨rfl, xP_of hU hW hP hK hDw hX hS hAw hAA⟩⟩ rfl rfl hl.1 rfl (lv_room (Nat.le_of_ble_eq_true rfl)) dX1_handOf_33 ⟨(Nat.le_of_ble_eq_true rfl), (Nat.le_of_ble_eq_true rfl)⟩) hP hS hA (fun r_13 H locs w_14 hP hS => ?_)
            obtain ⟨z_15, rfl, h_16⟩ := w_14
            rw [← hQ]
            exact W.iret (v := iI z_15) hx hb hr (fun t ht hW => ⟨⟨iI z_15, (), rfl, ⟨z_15, rfl, by omega⟩, trivial⟩, hS.F ht⟩) hS.2.2 dX1_handOf_36
  exact L2 ((((v p0 3) - 0 : Int)).toNat + 1) 0 H locs ls (by omega) (by omega) hP hS hl
set_option maxHeartbeats 2000000 in
set_option maxRecDepth 100000 in
theorem sX1_firstHandFor (l : Launch) (dC : Nat → ClassId) (dI : Nat → Nat → Nat) (sz : Nat) (L : List Nat) (cid : Nat → ClassId) (K : Int → Nat) (N : Int → Int) (tW : Nat) (sK sV : Nat → Nat) (v : Int → Int → Int) (p0 : Int) (p1 : Int) (p2 : Int) (hI : xI L K N v) (q0 : ok L K p0 1) (q1 : rg p1) (q2 : rg p2) : Met l yX1_firstHandFor (jk yX1_firstHandFor cX1_firstHandFor 4 (some .int)) ({ frames := 3, cells := 0, slots := 0, locals := 91 }) (va_Pc [.ref p0.toNat, .int (iI p1), .int (iI p2)] (xP (dC, dI) (xG L cid K N v) (xT cid) tW sK sV sz)) (va_Qi (fun (r : Int32) (u : (Int → Int → Int)) => ∃ z : Int, r = iI z ∧ (xI L K N u) ∧ (fr K [(57, (-1)), (59, (-1)), (60, (-1))] u v) ∧ (rg z)) (fun u t => va_P (dC, dI) vwCl (xG L cid K N u) t.heap ∧ va_K (dC, dI) vwCl (xT cid) t ∧ va_D (va_A (xG L cid K N v) sz) (xG L cid K N u)) (va_A (xG L cid K N v) sz)) 0 0 (va_A (xG L cid K N v) sz) := by
  refine Met.ofW (cc := cX1_firstHandFor) (maxL := 4) (ret := (some .int)) (by decide) rfl ?_
  intro p e s m args below meth c s₁ B hml hv
  obtain ⟨rfl, ⟨hsz, hP, hK, hD0⟩, hX⟩ := hv
  have hx := B.exec
  have hb := B.bytes
  have hr := B.returns
  have hts := atoms_spec (ws := (jk yX1_firstHandFor cX1_firstHandFor 4 (some .int))) B.pre
  have hj : ∀ w ∈ jw, w.before ([.ref p0.toNat, .int (iI p1), .int (iI p2)] : List Value).toArray s = true := fun w h => hts w (jm h)
  have hown : s.vm.findClass RX1 = some m.cls := findClass_of_methodNamed B.named
  subst hsz
  have hD := hD0.self (sz := s.heap.size)
  generalize hAe : (va_A (xG L cid K N v) s.heap.size) = A at hD hX ⊢
  have hA : ∀ q : Nat, s.heap.size ≤ q → A q := fun q h => by rw [← hAe]; exact Or.inr h
  have hS : va_S A s.heap s.heap [] := va_S.rf
  have hXa := hX
  have hP : va_P (dC, dI) vwCl (xG L cid K N v) s.heap := hP
  have hl := lv_entry ([.ref p0.toNat, .int (iI p1), .int (iI p2)]) (n := 4) (Nat.le_of_ble_eq_true rfl)
  rw [lg_entry_eq]
  generalize (lg_sl ([.ref p0.toNat, .int (iI p1), .int (iI p2)]) ++ List.replicate (4 - (lg_sl ([.ref p0.toNat, .int (iI p1), .int (iI p2)])).length) Slot.unset).toArray = ls at hl ⊢
  have hl : lv_has ls 4 [(0, .ref p0.toNat), (1, .int (iI p1)), (2, .int (iI p2))] := hl
  generalize hQ : MQ below (va_Qi (fun (r : Int32) (u : (Int → Int → Int)) => ∃ z : Int, r = iI z ∧ (xI L K N u) ∧ (fr K [(57, (-1)), (59, (-1)), (60, (-1))] u v) ∧ (rg z)) (fun u t => va_P (dC, dI) vwCl (xG L cid K N u) t.heap ∧ va_K (dC, dI) vwCl (xT cid) t ∧ va_D A (xG L cid K N u)) A) ([.ref p0.toNat, .int (iI p1), .int (iI p2)] : List Value).toArray s 0 0 A = Q
  suffices ST : ∀ (H : Heap) (locs : List Loc), va_P (dC, dI) vwCl (xG L cid K N v) H → va_S A s.heap H locs → W p l e ({ frames := 3, cells := 0, slots := 0, locals := 91 }) s m ([.ref p0.toNat, .int (iI p1), .int (iI p2)] : List Value).toArray below meth c H locs 0 0 Q (F0 m 0 ls []) from ST _ _ hP hS
  clear hP hS
  intro H locs hP hS
  refine lv_iload_n hx hb dX1_firstHandFor_0 rfl (lv_at hl 1 rfl) ?_
  refine xr_if_lt (tgt := 10) hx hb dX1_firstHandFor_1 (by decide) (by omega) (fun h_1 => ?_) (fun h_1 => ?_)
  · refine lv_iconst (v := iI (-1)) hx hb dX1_firstHandFor_10 rfl ?_
    rw [← hQ]
    exact W.iret (v := iI (-1)) hx hb hr (fun t ht hW => ⟨⟨iI (-1), v, rfl, ⟨(-1), rfl, hI, fr_rf, by omega⟩, by rw [ht]; exact hP, va_K.moved hW.alike hK, hD⟩, hS.F ht⟩) hS.2.2 dX1_firstHandFor_11
  · refine lv_iload_n hx hb dX1_firstHandFor_4 rfl (lv_at hl 1 rfl) ?_
    refine lv_bipush (v := iI 7) hx hb dX1_firstHandFor_5 rfl ?_
    refine xr_icmp_lt (tgt := 12) hx hb dX1_firstHandFor_7 (by decide) (by omega) (by omega) (fun h_2 => ?_) (fun h_2 => ?_)
    · refine lv_iconst (v := iI 0) hx hb dX1_firstHandFor_12 rfl ?_
      refine lv_istore_n (i := 3) (lv' := [(3, .int (iI 0)), (0, .ref p0.toNat), (1, .int (iI p1)), (2, .int (iI p2))]) hx hb dX1_firstHandFor_13 rfl hl (by decide) rfl (fun ls hl => ?_)
      have L14 : ∀ (n14 : Nat) (a3_14 : Int) (vc14 : Int → Int → Int) (H : Heap) (locs : List Loc) (ls : Array Slot), (0 ≤ a3_14 ∧ a3_14 ≤ 2147483647) → (0 < (n14 : Int) ∧ (v p0 7) - a3_14 < (n14 : Int)) → fr K [(57, (-1)), (59, (-1)), (60, (-1))] vc14 v → xI L K N vc14 → va_P (dC, dI) vwCl (xG L cid K N vc14) H → va_D A (xG L cid K N vc14) → va_S A s.heap H locs → lv_has ls 4 [(3, .int (iI a3_14)), (0, .ref p0.toNat), (1, .int (iI p1)), (2, .int (iI p2))] → W p l e ({ frames := 3, cells := 0, slots := 0, locals := 91 }) s m ([.ref p0.toNat, .int (iI p1), .int (iI p2)] : List Value).toArray below meth c H locs 0 0 Q (F0 m 14 ls []) := by
        intro n14
        induction n14 with
        | zero =>
          intro a3_14 vc14 H locs ls h_3 hm14 f_4 I_5 hP hD hS hl
          exfalso; omega
        | succ n14 ih14 =>
          intro a3_14 vc14 H locs ls h_6 hm14 f_7 I_8 hP hD hS hl
          refine lv_iload_n hx hb dX1_firstHandFor_14 rfl (lv_at hl 0 rfl) ?_
          refine lv_aload_n hx hb dX1_firstHandFor_15 rfl (lv_at hl 1 rfl) ?_
          have h_9 : 0 ≤ v p0 7 ∧ v p0 7 ≤ 6 := xf_1_7 hI q0
          refine gx_RX1_41 (y := v p0 7) hx hb hj hown hK hP q0 (fr_use q0 f_7 rfl) dX1_firstHandFor_16 ?_
          refine xr_icmp_ge (tgt := 108) hx hb dX1_firstHandFor_19 (by decide) (by omega) (by omega) (fun h_10 => ?_) (fun h_10 => ?_)
          · refine lv_iconst (v := iI (-1)) hx hb dX1_firstHandFor_108 rfl ?_
            rw [← hQ]
            exact W.iret (v := iI (-1)) hx hb hr (fun t ht hW => ⟨⟨iI (-1), vc14, rfl, ⟨(-1), rfl, I_8, (fr_tr f_7 rfl fr_rf), by omega⟩, by rw [ht]; exact hP, va_K.moved hW.alike hK, hD⟩, hS.F ht⟩) hS.2.2 dX1_firstHandFor_109
          · refine lv_iload_n hx hb dX1_firstHandFor_22 rfl (lv_at hl 0 rfl) ?_
            refine lv_bipush (v := iI 6) hx hb dX1_firstHandFor_23 rfl ?_
            refine xr_icmp_ge (tgt := 108) hx hb dX1_firstHandFor_25 (by decide) (by omega) (by omega) (fun h_11 => ?_) (fun h_11 => ?_)
            · exfalso; omega
            · refine lv_aload_n hx hb dX1_firstHandFor_28 rfl (lv_at hl 1 rfl) ?_
              have h_12 : ok L K (v p0 6) 58 := xf_1_6 hI q0
              have h_13 : N (v p0 6) = 6 := xn_58 hI h_12
              refine gx_RX1_27 (y := v p0 6) hx hb hj hown hK hP q0 ((xf_1_6 I_8 q0).1) (fr_use q0 f_7 rfl) dX1_firstHandFor_29 ?_
              refine lv_iload_n hx hb dX1_firstHandFor_32 rfl (lv_at hl 0 rfl) ?_
              have h_14 : (-2147483648) ≤ v (v p0 6) a3_14 ∧ v (v p0 6) a3_14 ≤ 2147483647 := xe_58 hI h_12 (by omega)
              refine ax_58 (y := v (v p0 6) a3_14) hx hb hK hP h_12 (by omega) (by omega) (by omega) (fr_use h_12 f_7 rfl) dX1_firstHandFor_33 ?_
              refine lv_iload_n hx hb dX1_firstHandFor_34 rfl (lv_at hl 2 rfl) ?_
              refine lv_ishr hx hb dX1_firstHandFor_35 ?_
              refine xr_any (fun z_15 h_16 => ?_)
              refine lv_iconst (v := iI 1) hx hb dX1_firstHandFor_36 rfl ?_
              refine xr_andR hx hb (by omega) (by omega) dX1_firstHandFor_37 (fun z_17 h_18 => ?_)
              have J102 : ∀ (vc102 : Int → Int → Int) (H : Heap) (locs : List Loc) (ls : Array Slot), fr K [(57, (-1)), (59, (-1)), (60, (-1))] vc102 vc14 → xI L K N vc102 → va_P (dC, dI) vwCl (xG L cid K N vc102) H → va_D A (xG L cid K N vc102) → va_S A s.heap H locs → lv_has ls 4 [(3, .int (iI a3_14)), (0, .ref p0.toNat), (1, .int (iI p1)), (2, .int (iI p2))] → W p l e ({ frames := 3, cells := 0, slots := 0, locals := 91 }) s m ([.ref p0.toNat, .int (iI p1), .int (iI p2)] : List Value).toArray below meth c H locs 0 0 Q (F0 m 102 ls []) := by
                intro vc102 H locs ls f_19 I_20 hP hD hS hl
                refine lv_iinc (v := iI (a3_14 + 1)) (lv' := [(3, .int (iI (a3_14 + 1))), (0, .ref p0.toNat), (1, .int (iI p1)), (2, .int (iI p2))]) hx hb dX1_firstHandFor_102 hl (k := 0) rfl (iI_add _ _) (by decide) rfl (fun ls hl => ?_)
                refine lv_goto (tgt := 14) hx hb dX1_firstHandFor_105 (by decide) ?_
                exact ih14 (a3_14 + 1) vc102 H locs ls (by omega) (by omega) (fr_tr f_19 rfl (fr_tr f_7 rfl fr_rf)) I_20 hP hD hS hl
              refine xr_if_eq (tgt := 102) hx hb dX1_firstHandFor_38 (by decide) (by omega) (fun h_21 => ?_) (fun h_21 => ?_)
              · exact J102 vc14 H locs ls fr_rf I_8 hP hD hS hl
              · refine lv_aload_n hx hb dX1_firstHandFor_41 rfl (lv_at hl 1 rfl) ?_
                have h_22 : ok L K (v p0 1) 54 := xf_1_1 hI q0
                have h_23 : N (v p0 1) = 7 := xn_54 hI h_22
                refine gx_RX1_15 (y := v p0 1) hx hb hj hown hK hP q0 ((xf_1_1 I_8 q0).1) (fr_use q0 f_7 rfl) dX1_firstHandFor_42 ?_
                refine lv_iload_n hx hb dX1_firstHandFor_45 rfl (lv_at hl 2 rfl) ?_
                have h_24 : (-2147483648) ≤ v (v p0 1) p1 ∧ v (v p0 1) p1 ≤ 2147483647 := xe_54 hI h_22 (by omega)
                refine ax_54 (y := v (v p0 1) p1) hx hb hK hP h_22 (by omega) (by omega) (by omega) (fr_use h_22 f_7 rfl) dX1_firstHandFor_46 ?_
                refine lv_aload_n hx hb dX1_firstHandFor_47 rfl (lv_at hl 1 rfl) ?_
                have h_25 : ok L K (v p0 5) 57 := xf_1_5 hI q0
                have h_26 : N (v p0 5) = 6 := xn_57 hI h_25
                refine gx_RX1_24 (y := v p0 5) hx hb hj hown hK hP q0 ((xf_1_5 I_8 q0).1) (fr_use q0 f_7 rfl) dX1_firstHandFor_48 ?_
                refine lv_iload_n hx hb dX1_firstHandFor_51 rfl (lv_at hl 0 rfl) ?_
                have h_27 : (-2147483648) ≤ vc14 (v p0 5) a3_14 ∧ vc14 (v p0 5) a3_14 ≤ 2147483647 := xe_57 I_8 h_25 (by omega)
                refine ax_57 (y := vc14 (v p0 5) a3_14) hx hb hK hP h_25 (by omega) (by omega) (by omega) rfl dX1_firstHandFor_52 ?_
                refine xr_icmp_le (tgt := 59) hx hb dX1_firstHandFor_53 (by decide) (by omega) (by omega) (fun h_28 => ?_) (fun h_28 => ?_)
                · refine lv_aload_n hx hb dX1_firstHandFor_59 rfl (lv_at hl 1 rfl) ?_
                  refine gx_RX1_24 (y := v p0 5) hx hb hj hown hK hP q0 ((xf_1_5 I_8 q0).1) (fr_use q0 f_7 rfl) dX1_firstHandFor_60 ?_
                  refine lv_iload_n hx hb dX1_firstHandFor_63 rfl (lv_at hl 0 rfl) ?_
                  refine lv_dup2_11 hx hb dX1_firstHandFor_64 rfl rfl ?_
                  refine ax_57 (y := vc14 (v p0 5) a3_14) hx hb hK hP h_25 (by omega) (by omega) (by omega) rfl dX1_firstHandFor_65 ?_
                  refine lv_aload_n hx hb dX1_firstHandFor_66 rfl (lv_at hl 1 rfl) ?_
                  refine gx_RX1_15 (y := v p0 1) hx hb hj hown hK hP q0 ((xf_1_1 I_8 q0).1) (fr_use q0 f_7 rfl) dX1_firstHandFor_67 ?_
                  refine lv_iload_n hx hb dX1_firstHandFor_70 rfl (lv_at hl 2 rfl) ?_
                  refine ax_54 (y := v (v p0 1) p1) hx hb hK hP h_22 (by omega) (by omega) (by omega) (fr_use h_22 f_7 rfl) dX1_firstHandFor_71 ?_
                  refine xr_sub hx hb dX1_firstHandFor_72 ?_
                  refine xr_kept (fun z_29 h_30 h_31 => ?_)
                  refine sx_57 (y := z_29) hx hb hK hP hD hS I_8 h_25 (by omega) (by omega) (by omega) ⟨by omega, by omega⟩ dX1_firstHandFor_73 (fun v_32 H locs f_33 e_34 o_35 I_36 hP hD hS => ?_)
                  refine lv_aload_n hx hb dX1_firstHandFor_74 rfl (lv_at hl 1 rfl) ?_
                  refine lv_iload_n hx hb dX1_firstHandFor_75 rfl (lv_at hl 2 rfl) ?_
                  refine lv_iconst (v := iI 1) hx hb dX1_firstHandFor_76 rfl ?_
                  refine xr_add hx hb dX1_firstHandFor_77 ?_
                  refine jcg_i (va_runV (As := [.int (iI (p1 + 1))]) (rest := []) ⟨hx, hb, hml, hown, hts⟩ (sX1_bestFrom l dC dI _ L cid K N tW sK sV v_32 p0 (p1 + 1) I_36 q0 (by omega) (by omega)) (cwV 1 hts (jgoodV m_902 m_903 m_904 m_888 m_905) rfl rfl rfl (by decide +kernel) ⟨(Nat.le_of_ble_eq_true rfl), (Nat.le_of_ble_eq_true rfl)⟩) ⟨xP_blind, xrecv hK hP q0 rfl rfl, fun U hU hW => ⟨rfl, xP_of hU hW hP hK hD hX hS (fun _ h => h) hA⟩⟩ rfl rfl hl.1 rfl (lv_room (Nat.le_of_ble_eq_true rfl)) dX1_firstHandFor_78 ⟨(Nat.le_of_ble_eq_true rfl), (Nat.le_of_ble_eq_true rfl)⟩) hD hS hA (fun r_37 v_41 H locs w_38 hP hK hD hS => ?_)
                  obtain ⟨z_39, rfl, I_43, f_42, h_40⟩ := w_38
                  have hP : va_P (dC, dI) vwCl (xG L cid K N v_41) H := hP
                  have hD : va_D A (xG L cid K N v_41) := hD
                  refine lv_iload_n hx hb dX1_firstHandFor_81 rfl (lv_at hl 3 rfl) ?_
                  refine xr_icmp_ne (tgt := 87) hx hb dX1_firstHandFor_82 (by decide) (by omega) (by omega) (fun h_44 => ?_) (fun h_44 => ?_)
                  · refine lv_aload_n hx hb dX1_firstHandFor_87 rfl (lv_at hl 1 rfl) ?_
                    refine gx_RX1_24 (y := v p0 5) hx hb hj hown hK hP q0 ((xf_1_5 I_43 q0).1) (((fr_use q0 f_42 rfl)).trans (((fr_use q0 f_33 rfl)).trans (fr_use q0 f_7 rfl))) dX1_firstHandFor_88 ?_
                    refine lv_iload_n hx hb dX1_firstHandFor_91 rfl (lv_at hl 0 rfl) ?_
                    refine lv_dup2_11 hx hb dX1_firstHandFor_92 rfl rfl ?_
                    refine ax_57 (y := z_29) hx hb hK hP h_25 (by omega) (by omega) (by omega) (((fr_use h_25 f_42 rfl)).trans e_34) dX1_firstHandFor_93 ?_
                    refine lv_aload_n hx hb dX1_firstHandFor_94 rfl (lv_at hl 1 rfl) ?_
                    refine gx_RX1_15 (y := v p0 1) hx hb hj hown hK hP q0 ((xf_1_1 I_43 q0).1) (((fr_use q0 f_42 rfl)).trans (((fr_use q0 f_33 rfl)).trans (fr_use q0 f_7 rfl))) dX1_firstHandFor_95 ?_
                    refine lv_iload_n hx hb dX1_firstHandFor_98 rfl (lv_at hl 2 rfl) ?_
                    refine ax_54 (y := v (v p0 1) p1) hx hb hK hP h_22 (by omega) (by omega) (by omega) (((fr_use h_22 f_42 rfl)).trans (((fr_use h_22 f_33 rfl)).trans (fr_use h_22 f_7 rfl))) dX1_firstHandFor_99 ?_
                    refine xr_add hx hb dX1_firstHandFor_100 ?_
                    refine xr_kept (fun z_45 h_46 h_47 => ?_)
                    refine sx_57 (y := z_45) hx hb hK hP hD hS I_43 h_25 (by omega) (by omega) (by omega) ⟨by omega, by omega⟩ dX1_firstHandFor_101 (fun v_48 H locs f_49 e_50 o_51 I_52 hP hD hS => ?_)
                    exact J102 v_48 H locs ls (fr_tr f_49 rfl (fr_tr f_42 rfl (fr_tr f_33 rfl fr_rf))) I_52 hP hD hS hl
                  · refine lv_iload_n hx hb dX1_firstHandFor_85 rfl (lv_at hl 0 rfl) ?_
                    rw [← hQ]
                    exact W.iret (v := iI a3_14) hx hb hr (fun t ht hW => ⟨⟨iI a3_14, v_41, rfl, ⟨a3_14, rfl, I_43, (fr_tr f_42 rfl (fr_tr f_33 rfl (fr_tr f_7 rfl fr_rf))), by omega⟩, by rw [ht]; exact hP, va_K.moved hW.alike hK, hD⟩, hS.F ht⟩) hS.2.2 dX1_firstHandFor_86
                · refine lv_goto (tgt := 102) hx hb dX1_firstHandFor_56 (by decide) ?_
                  exact J102 vc14 H locs ls fr_rf I_8 hP hD hS hl
      exact L14 ((((v p0 7) - 0 : Int)).toNat + 1) 0 v H locs ls (by omega) (by omega) fr_rf hI hP hD hS hl
    · refine lv_iconst (v := iI (-1)) hx hb dX1_firstHandFor_10 rfl ?_
      rw [← hQ]
      exact W.iret (v := iI (-1)) hx hb hr (fun t ht hW => ⟨⟨iI (-1), v, rfl, ⟨(-1), rfl, hI, fr_rf, by omega⟩, by rw [ht]; exact hP, va_K.moved hW.alike hK, hD⟩, hS.F ht⟩) hS.2.2 dX1_firstHandFor_11
set_option maxHeartbeats 2000000 in
set_option maxRecDepth 100000 in
theorem sX1_choose (l : Launch) (dC : Nat → ClassId) (dI : Nat → Nat → Nat) (sz : Nat) (L : List Nat) (cid : Nat → ClassId) (K : Int → Nat) (N : Int → Int) (tW : Nat) (sK sV : Nat → Nat) (v : Int → Int → Int) (p0 : Int) (hI : xI L K N v) (q0 : ok L K p0 1) : Met l yX1_choose (jk yX1_choose cX1_choose 5 (some .int)) ({ frames := 4, cells := 0, slots := 0, locals := 114 }) (va_Pc [.ref p0.toNat] (xP (dC, dI) (xG L cid K N v) (xT cid) tW sK sV sz)) (va_Qi (fun (r : Int32) (u : (Int → Int → Int)) => ∃ z : Int, r = iI z ∧ (xI L K N u) ∧ (fr K [(55, (-1)), (57, (-1)), (59, (-1)), (60, (-1))] u v) ∧ (rg z)) (fun u t => va_P (dC, dI) vwCl (xG L cid K N u) t.heap ∧ va_K (dC, dI) vwCl (xT cid) t ∧ va_D (va_A (xG L cid K N v) sz) (xG L cid K N u)) (va_A (xG L cid K N v) sz)) 0 0 (va_A (xG L cid K N v) sz) := by
  refine Met.ofW (cc := cX1_choose) (maxL := 5) (ret := (some .int)) (by decide) rfl ?_
  intro p e s m args below meth c s₁ B hml hv
  obtain ⟨rfl, ⟨hsz, hP, hK, hD0⟩, hX⟩ := hv
  have hx := B.exec
  have hb := B.bytes
  have hr := B.returns
  have hts := atoms_spec (ws := (jk yX1_choose cX1_choose 5 (some .int))) B.pre
  have hj : ∀ w ∈ jw, w.before ([.ref p0.toNat] : List Value).toArray s = true := fun w h => hts w (jm h)
  have hown : s.vm.findClass RX1 = some m.cls := findClass_of_methodNamed B.named
  subst hsz
  have hD := hD0.self (sz := s.heap.size)
  generalize hAe : (va_A (xG L cid K N v) s.heap.size) = A at hD hX ⊢
  have hA : ∀ q : Nat, s.heap.size ≤ q → A q := fun q h => by rw [← hAe]; exact Or.inr h
  have hS : va_S A s.heap s.heap [] := va_S.rf
  have hXa := hX
  have hP : va_P (dC, dI) vwCl (xG L cid K N v) s.heap := hP
  have hl := lv_entry ([.ref p0.toNat]) (n := 5) (Nat.le_of_ble_eq_true rfl)
  rw [lg_entry_eq]
  generalize (lg_sl ([.ref p0.toNat]) ++ List.replicate (5 - (lg_sl ([.ref p0.toNat])).length) Slot.unset).toArray = ls at hl ⊢
  have hl : lv_has ls 5 [(0, .ref p0.toNat)] := hl
  generalize hQ : MQ below (va_Qi (fun (r : Int32) (u : (Int → Int → Int)) => ∃ z : Int, r = iI z ∧ (xI L K N u) ∧ (fr K [(55, (-1)), (57, (-1)), (59, (-1)), (60, (-1))] u v) ∧ (rg z)) (fun u t => va_P (dC, dI) vwCl (xG L cid K N u) t.heap ∧ va_K (dC, dI) vwCl (xT cid) t ∧ va_D A (xG L cid K N u)) A) ([.ref p0.toNat] : List Value).toArray s 0 0 A = Q
  suffices ST : ∀ (H : Heap) (locs : List Loc), va_P (dC, dI) vwCl (xG L cid K N v) H → va_S A s.heap H locs → W p l e ({ frames := 4, cells := 0, slots := 0, locals := 114 }) s m ([.ref p0.toNat] : List Value).toArray below meth c H locs 0 0 Q (F0 m 0 ls []) from ST _ _ hP hS
  clear hP hS
  intro H locs hP hS
  refine lv_aload_n hx hb dX1_choose_0 rfl (lv_at hl 0 rfl) ?_
  refine lv_iconst (v := iI 0) hx hb dX1_choose_1 rfl ?_
  refine jcg_i (va_runV (As := [.int (iI 0)]) (rest := []) ⟨hx, hb, hml, hown, hts⟩ (sX1_bestFrom l dC dI _ L cid K N tW sK sV v p0 0 hI q0 (by omega) (by omega)) (cwV 1 hts (jgoodV m_902 m_903 m_904 m_888 m_905) rfl rfl rfl (by decide +kernel) ⟨(Nat.le_of_ble_eq_true rfl), (Nat.le_of_ble_eq_true rfl)⟩) ⟨xP_blind, xrecv hK hP q0 rfl rfl, fun U hU hW => ⟨rfl, xP_of hU hW hP hK hD hX hS (fun _ h => h) hA⟩⟩ rfl rfl hl.1 rfl (lv_room (Nat.le_of_ble_eq_true rfl)) dX1_choose_2 ⟨(Nat.le_of_ble_eq_true rfl), (Nat.le_of_ble_eq_true rfl)⟩) hD hS hA (fun r_1 v_5 H locs w_2 hP hK hD hS => ?_)
  obtain ⟨z_3, rfl, I_7, f_6, h_4⟩ := w_2
  have hP : va_P (dC, dI) vwCl (xG L cid K N v_5) H := hP
  have hD : va_D A (xG L cid K N v_5) := hD
  refine lv_istore_n (i := 1) (lv' := [(1, .int (iI z_3)), (0, .ref p0.toNat)]) hx hb dX1_choose_5 rfl hl (by decide) rfl (fun ls hl => ?_)
  refine lv_iconst (v := iI 0) hx hb dX1_choose_6 rfl ?_
  refine lv_istore_n (i := 2) (lv' := [(2, .int (iI 0)), (1, .int (iI z_3)), (0, .ref p0.toNat)]) hx hb dX1_choose_7 rfl hl (by decide) rfl (fun ls hl => ?_)
  refine lv_iconst (v := iI 0) hx hb dX1_choose_8 rfl ?_
  refine lv_istore_n (i := 3) (lv' := [(3, .int (iI 0)), (2, .int (iI 0)), (1, .int (iI z_3)), (0, .ref p0.toNat)]) hx hb dX1_choose_9 rfl hl (by decide) rfl (fun ls hl => ?_)
  have L10 : ∀ (n10 : Nat) (a3_10 a2_10 a1_10 : Int) (vc10 : Int → Int → Int) (H : Heap) (locs : List Loc) (ls : Array Slot), (0 ≤ a3_10 ∧ a3_10 ≤ 2147483647) → ((-2147483648) ≤ a2_10 ∧ a2_10 ≤ 2147483647) → ((-2147483648) ≤ a1_10 ∧ a1_10 ≤ 2147483647) → (0 < (n10 : Int) ∧ (v p0 3) - a3_10 < (n10 : Int)) → fr K [(55, (-1)), (57, (-1)), (59, (-1)), (60, (-1))] vc10 v_5 → xI L K N vc10 → va_P (dC, dI) vwCl (xG L cid K N vc10) H → va_D A (xG L cid K N vc10) → va_S A s.heap H locs → lv_has ls 5 [(3, .int (iI a3_10)), (2, .int (iI a2_10)), (1, .int (iI a1_10)), (0, .ref p0.toNat)] → W p l e ({ frames := 4, cells := 0, slots := 0, locals := 114 }) s m ([.ref p0.toNat] : List Value).toArray below meth c H locs 0 0 Q (F0 m 10 ls []) := by
    intro n10
    induction n10 with
    | zero =>
      intro a3_10 a2_10 a1_10 vc10 H locs ls h_8 h_9 h_10 hm10 f_11 I_12 hP hD hS hl
      exfalso; omega
    | succ n10 ih10 =>
      intro a3_10 a2_10 a1_10 vc10 H locs ls h_13 h_14 h_15 hm10 f_16 I_17 hP hD hS hl
      refine lv_iload_n hx hb dX1_choose_10 rfl (lv_at hl 0 rfl) ?_
      refine lv_aload_n hx hb dX1_choose_11 rfl (lv_at hl 3 rfl) ?_
      have h_18 : 0 ≤ v p0 3 ∧ v p0 3 ≤ 7 := xf_1_3 hI q0
      refine gx_RX1_37 (y := v p0 3) hx hb hj hown hK hP q0 (((fr_use q0 f_16 rfl)).trans (fr_use q0 f_6 rfl)) dX1_choose_12 ?_
      refine xr_icmp_ge (tgt := 75) hx hb dX1_choose_15 (by decide) (by omega) (by omega) (fun h_19 => ?_) (fun h_19 => ?_)
      · refine lv_iload_n hx hb dX1_choose_75 rfl (lv_at hl 1 rfl) ?_
        rw [← hQ]
        exact W.iret (v := iI a2_10) hx hb hr (fun t ht hW => ⟨⟨iI a2_10, vc10, rfl, ⟨a2_10, rfl, I_17, (fr_tr f_16 rfl (fr_tr f_6 rfl fr_rf)), by omega⟩, by rw [ht]; exact hP, va_K.moved hW.alike hK, hD⟩, hS.F ht⟩) hS.2.2 dX1_choose_76
      · refine lv_iload_n hx hb dX1_choose_18 rfl (lv_at hl 0 rfl) ?_
        refine lv_bipush (v := iI 7) hx hb dX1_choose_19 rfl ?_
        refine xr_icmp_ge (tgt := 75) hx hb dX1_choose_21 (by decide) (by omega) (by omega) (fun h_20 => ?_) (fun h_20 => ?_)
        · exfalso; omega
        · refine lv_sipush (v := iI 10000) hx hb dX1_choose_24 rfl ?_
          refine lv_aload_n hx hb dX1_choose_27 rfl (lv_at hl 3 rfl) ?_
          have h_21 : ok L K (v p0 1) 54 := xf_1_1 hI q0
          have h_22 : N (v p0 1) = 7 := xn_54 hI h_21
          refine gx_RX1_15 (y := v p0 1) hx hb hj hown hK hP q0 ((xf_1_1 I_17 q0).1) (((fr_use q0 f_16 rfl)).trans (fr_use q0 f_6 rfl)) dX1_choose_28 ?_
          refine lv_iload_n hx hb dX1_choose_31 rfl (lv_at hl 0 rfl) ?_
          have h_23 : (-2147483648) ≤ v (v p0 1) a3_10 ∧ v (v p0 1) a3_10 ≤ 2147483647 := xe_54 hI h_21 (by omega)
          refine ax_54 (y := v (v p0 1) a3_10) hx hb hK hP h_21 (by omega) (by omega) (by omega) (((fr_use h_21 f_16 rfl)).trans (fr_use h_21 f_6 rfl)) dX1_choose_32 ?_
          refine xr_sub hx hb dX1_choose_33 ?_
          refine xr_kept (fun z_24 h_25 h_26 => ?_)
          refine lv_istore (i := 4) (lv' := [(4, .int (iI z_24)), (3, .int (iI a3_10)), (2, .int (iI a2_10)), (1, .int (iI a1_10)), (0, .ref p0.toNat)]) hx hb dX1_choose_34 hl (by decide) rfl (fun ls hl => ?_)
          refine lv_aload_n hx hb dX1_choose_36 rfl (lv_at hl 4 rfl) ?_
          have h_27 : ok L K (v p0 2) 55 := xf_1_2 hI q0
          have h_28 : N (v p0 2) = 7 := xn_55 hI h_27
          refine gx_RX1_18 (y := v p0 2) hx hb hj hown hK hP q0 ((xf_1_2 I_17 q0).1) (((fr_use q0 f_16 rfl)).trans (fr_use q0 f_6 rfl)) dX1_choose_37 ?_
          refine lv_iload_n hx hb dX1_choose_40 rfl (lv_at hl 1 rfl) ?_
          refine lv_aload_n hx hb dX1_choose_41 rfl (lv_at hl 4 rfl) ?_
          refine lv_iload_n hx hb dX1_choose_42 rfl (lv_at hl 1 rfl) ?_
          refine lv_iload_n hx hb dX1_choose_43 rfl (lv_at hl 3 rfl) ?_
          refine lv_iload hx hb dX1_choose_44 (lv_at hl 0 rfl) ?_
          refine xr_sub hx hb dX1_choose_46 ?_
          refine xr_kept (fun z_29 h_30 h_31 => ?_)
          refine jcg_i (va_runV (As := [.int (iI a3_10), .int (iI z_29)]) (rest := [.int (iI a3_10), .ref (v p0 2).toNat]) ⟨hx, hb, hml, hown, hts⟩ (sX1_firstHandFor l dC dI _ L cid K N tW sK sV vc10 p0 a3_10 z_29 I_17 q0 (by omega) (by omega)) (cwV 2 hts (jgoodV m_906 m_907 m_908 m_888 m_909) rfl rfl rfl (by decide +kernel) ⟨(Nat.le_of_ble_eq_true rfl), (Nat.le_of_ble_eq_true rfl)⟩) ⟨xP_blind, xrecv hK hP q0 rfl rfl, fun U hU hW => ⟨rfl, xP_of hU hW hP hK hD hX hS (fun _ h => h) hA⟩⟩ rfl rfl hl.1 rfl (lv_room (Nat.le_of_ble_eq_true rfl)) dX1_choose_47 ⟨(Nat.le_of_ble_eq_true rfl), (Nat.le_of_ble_eq_true rfl)⟩) hD hS hA (fun r_32 v_36 H locs w_33 hP hK hD hS => ?_)
          obtain ⟨z_34, rfl, I_38, f_37, h_35⟩ := w_33
          have hP : va_P (dC, dI) vwCl (xG L cid K N v_36) H := hP
          have hD : va_D A (xG L cid K N v_36) := hD
          refine sx_55 (y := z_34) hx hb hK hP hD hS I_38 h_27 (by omega) (by omega) (by omega) ⟨by omega, by omega⟩ dX1_choose_50 (fun v_39 H locs f_40 e_41 o_42 I_43 hP hD hS => ?_)
          refine lv_aload_n hx hb dX1_choose_51 rfl (lv_at hl 4 rfl) ?_
          refine gx_RX1_18 (y := v p0 2) hx hb hj hown hK hP q0 ((xf_1_2 I_43 q0).1) (((fr_use q0 f_40 rfl)).trans (((fr_use q0 f_37 rfl)).trans (((fr_use q0 f_16 rfl)).trans (fr_use q0 f_6 rfl)))) dX1_choose_52 ?_
          refine lv_iload_n hx hb dX1_choose_55 rfl (lv_at hl 1 rfl) ?_
          refine ax_55 (y := z_34) hx hb hK hP h_27 (by omega) (by omega) (by omega) e_41 dX1_choose_56 ?_
          refine lv_iconst (v := iI (-1)) hx hb dX1_choose_57 rfl ?_
          have J69 : ∀ (a2_69 a1_69 : Int) (H : Heap) (locs : List Loc) (ls : Array Slot), ((-2147483648) ≤ a2_69 ∧ a2_69 ≤ 2147483647) → ((-2147483648) ≤ a1_69 ∧ a1_69 ≤ 2147483647) → va_P (dC, dI) vwCl (xG L cid K N v_39) H → va_D A (xG L cid K N v_39) → va_S A s.heap H locs → lv_has ls 5 [(4, .int (iI z_24)), (3, .int (iI a3_10)), (2, .int (iI a2_69)), (1, .int (iI a1_69)), (0, .ref p0.toNat)] → W p l e ({ frames := 4, cells := 0, slots := 0, locals := 114 }) s m ([.ref p0.toNat] : List Value).toArray below meth c H locs 0 0 Q (F0 m 69 ls []) := by
            intro a2_69 a1_69 H locs ls h_44 h_45 hP hD hS hl
            refine lv_iinc (v := iI (a3_10 + 1)) (lv' := [(3, .int (iI (a3_10 + 1))), (4, .int (iI z_24)), (2, .int (iI a2_69)), (1, .int (iI a1_69)), (0, .ref p0.toNat)]) hx hb dX1_choose_69 hl (k := 1) rfl (iI_add _ _) (by decide) rfl (fun ls hl => ?_)
            refine lv_goto (tgt := 10) hx hb dX1_choose_72 (by decide) ?_
            exact ih10 (a3_10 + 1) a2_69 a1_69 v_39 H locs ls (by omega) (by omega) (by omega) (by omega) (fr_tr f_40 rfl (fr_tr f_37 rfl (fr_tr f_16 rfl fr_rf))) I_43 hP hD hS (lv_sub hl [0, 2, 3, 4] rfl)
          refine xr_icmp_eq (tgt := 69) hx hb dX1_choose_58 (by decide) (by omega) (by omega) (fun h_46 => ?_) (fun h_46 => ?_)
          · exact J69 a2_10 a1_10 H locs ls (by omega) (by omega) hP hD hS hl
          · refine lv_iload_n hx hb dX1_choose_61 rfl (lv_at hl 3 rfl) ?_
            refine lv_iload hx hb dX1_choose_62 (lv_at hl 0 rfl) ?_
            refine xr_sub hx hb dX1_choose_64 ?_
            refine xr_kept (fun z_47 h_48 h_49 => ?_)
            refine lv_istore_n (i := 1) (lv' := [(1, .int (iI z_47)), (4, .int (iI z_24)), (3, .int (iI a3_10)), (2, .int (iI a2_10)), (0, .ref p0.toNat)]) hx hb dX1_choose_65 rfl hl (by decide) rfl (fun ls hl => ?_)
            refine lv_iinc (v := iI (a2_10 + 1)) (lv' := [(2, .int (iI (a2_10 + 1))), (1, .int (iI z_47)), (4, .int (iI z_24)), (3, .int (iI a3_10)), (0, .ref p0.toNat)]) hx hb dX1_choose_66 hl (k := 3) rfl (iI_add _ _) (by decide) rfl (fun ls hl => ?_)
            obtain ⟨z_50, h_51, h_52, e9⟩ := xr_keep (a2_10 + 1)
            rw [e9] at hl
            exact J69 z_50 z_47 H locs ls (by omega) (by omega) hP hD hS (lv_sub hl [2, 3, 0, 1, 4] rfl)
  exact L10 ((((v p0 3) - 0 : Int)).toNat + 1) 0 0 z_3 v_5 H locs ls (by omega) (by omega) (by omega) (by omega) fr_rf I_7 hP hD hS hl
set_option maxHeartbeats 2000000 in
set_option maxRecDepth 100000 in
theorem sX3_begin (l : Launch) (dC : Nat → ClassId) (dI : Nat → Nat → Nat) (sz : Nat) (L : List Nat) (cid : Nat → ClassId) (K : Int → Nat) (N : Int → Int) (tW : Nat) (sK sV : Nat → Nat) (v : Int → Int → Int) (p0 : Int) (hI : xI L K N v) (q0 : ok L K p0 3) : Met l yX3_begin (jk yX3_begin cX3_begin 1 none) ({ frames := 0, cells := 0, slots := 0, locals := 0 }) (va_Pc [.ref p0.toNat] (xP (dC, dI) (xG L cid K N v) (xT cid) tW sK sV sz)) (va_Qv (fun (u : (Int → Int → Int)) => (xI L K N u) ∧ (fr K [(3, 5), (3, 6)] u v)) (fun u t => va_P (dC, dI) vwCl (xG L cid K N u) t.heap ∧ va_K (dC, dI) vwCl (xT cid) t ∧ va_D (va_A (xG L cid K N v) sz) (xG L cid K N u)) (va_A (xG L cid K N v) sz)) 0 0 (va_A (xG L cid K N v) sz) := by
  refine Met.ofW (cc := cX3_begin) (maxL := 1) (ret := none) (by decide) rfl ?_
  intro p e s m args below meth c s₁ B hml hv
  obtain ⟨rfl, ⟨hsz, hP, hK, hD0⟩, hX⟩ := hv
  have hx := B.exec
  have hb := B.bytes
  have hr := B.returns
  have hts := atoms_spec (ws := (jk yX3_begin cX3_begin 1 none)) B.pre
  have hj : ∀ w ∈ jw, w.before ([.ref p0.toNat] : List Value).toArray s = true := fun w h => hts w (jm h)
  have hown : s.vm.findClass RX3 = some m.cls := findClass_of_methodNamed B.named
  subst hsz
  have hD := hD0.self (sz := s.heap.size)
  generalize hAe : (va_A (xG L cid K N v) s.heap.size) = A at hD hX ⊢
  have hA : ∀ q : Nat, s.heap.size ≤ q → A q := fun q h => by rw [← hAe]; exact Or.inr h
  have hS : va_S A s.heap s.heap [] := va_S.rf
  have hXa := hX
  have hP : va_P (dC, dI) vwCl (xG L cid K N v) s.heap := hP
  have hl := lv_entry ([.ref p0.toNat]) (n := 1) (Nat.le_of_ble_eq_true rfl)
  rw [lg_entry_eq]
  generalize (lg_sl ([.ref p0.toNat]) ++ List.replicate (1 - (lg_sl ([.ref p0.toNat])).length) Slot.unset).toArray = ls at hl ⊢
  have hl : lv_has ls 1 [(0, .ref p0.toNat)] := hl
  generalize hQ : MQ below (va_Qv (fun (u : (Int → Int → Int)) => (xI L K N u) ∧ (fr K [(3, 5), (3, 6)] u v)) (fun u t => va_P (dC, dI) vwCl (xG L cid K N u) t.heap ∧ va_K (dC, dI) vwCl (xT cid) t ∧ va_D A (xG L cid K N u)) A) ([.ref p0.toNat] : List Value).toArray s 0 0 A = Q
  suffices ST : ∀ (H : Heap) (locs : List Loc), va_P (dC, dI) vwCl (xG L cid K N v) H → va_S A s.heap H locs → W p l e ({ frames := 0, cells := 0, slots := 0, locals := 0 }) s m ([.ref p0.toNat] : List Value).toArray below meth c H locs 0 0 Q (F0 m 0 ls []) from ST _ _ hP hS
  clear hP hS
  intro H locs hP hS
  refine lv_aload_n hx hb dX3_begin_0 rfl (lv_at hl 0 rfl) ?_
  refine lv_iconst (v := iI 0) hx hb dX3_begin_1 rfl ?_
  refine px_RX3_27 (y := 0) hx hb hj hown hK hP hD hS hI q0 ⟨by omega, by omega⟩ dX3_begin_2 (fun v_1 H locs f_2 e_3 o_4 I_5 hP hD hS => ?_)
  refine lv_aload_n hx hb dX3_begin_5 rfl (lv_at hl 0 rfl) ?_
  refine lv_iconst (v := iI 0) hx hb dX3_begin_6 rfl ?_
  refine px_RX3_31 (y := 0) hx hb hj hown hK hP hD hS I_5 q0 ⟨by omega, by omega⟩ dX3_begin_7 (fun v_6 H locs f_7 e_8 o_9 I_10 hP hD hS => ?_)
  rw [← hQ]
  exact W.vret hx hb hr (fun t ht hW => ⟨⟨v_6, rfl, ⟨I_10, (fr_tr f_7 rfl (fr_tr f_2 rfl fr_rf))⟩, by rw [ht]; exact hP, va_K.moved hW.alike hK, hD⟩, hS.F ht⟩) hS.2.2 dX3_begin_10
