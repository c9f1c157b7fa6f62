set_option maxHeartbeats 2000000 in
set_option maxRecDepth 100000 in
theorem sX7_kind (l : Launch) (dC : Nat → ClassId) (dI : Nat → Nat → Nat) (sz : Nat) (L : List Nat) (cid : Nat → ClassId) (K : Int → Nat) (N : Int → Int) (tW : Nat) (sK sV : Nat → Nat) (v : Int → Int → Int) (p0 : Int) (hI : xI L K N v) (q0 : ok L K p0 7) : Met l yX7_kind (jk yX7_kind cX7_kind 1 (some .int)) ({ frames := 0, cells := 0, slots := 0, locals := 0 }) (va_Pc [.ref p0.toNat] (xP (dC, dI) (xG L cid K N v) (xT cid) tW sK sV sz)) (va_Qi (fun (r : Int32) (_ : Unit) => ∃ z : Int, r = iI z ∧ (rg z) ∧ (z = 0 ∨ (0 ≤ v p0 7 ∧ v p0 7 < 601))) (fun _ _ => True) (va_A [] sz)) 0 0 (va_A [] sz) := by
  refine Met.ofW (cc := cX7_kind) (maxL := 1) (ret := (some .int)) (by decide) rfl ?_
  intro p e s m args below meth c s₁ B hml hv
  obtain ⟨rfl, ⟨hsz, hP, hK, hD0⟩, hX⟩ := hv
  have hx := B.exec
  have hb := B.bytes
  have hr := B.returns
  have hts := atoms_spec (ws := (jk yX7_kind cX7_kind 1 (some .int))) B.pre
  have hj : ∀ w ∈ jw, w.before ([.ref p0.toNat] : List Value).toArray s = true := fun w h => hts w (jm h)
  have hown : s.vm.findClass RX7 = some m.cls := findClass_of_methodNamed B.named
  subst hsz
  have hDw := hD0.self (sz := s.heap.size)
  have hAA : ∀ q : Nat, s.heap.size ≤ q → va_A (xG L cid K N v) s.heap.size q := fun q h => Or.inr h
  have hAw : ∀ q, va_A [] s.heap.size q → va_A (xG L cid K N v) s.heap.size q := ja_nil va_S.rf hAA
  generalize hAe : (va_A [] s.heap.size) = A at hAw ⊢
  have hA : ∀ q : Nat, s.heap.size ≤ q → A q := fun q h => by rw [← hAe]; exact Or.inr h
  have hS : va_S A s.heap s.heap [] := va_S.rf
  have hXa := hX.nar hAw
  have hP : va_P (dC, dI) vwCl (xG L cid K N v) s.heap := hP
  have hl := lv_entry ([.ref p0.toNat]) (n := 1) (Nat.le_of_ble_eq_true rfl)
  rw [lg_entry_eq]
  generalize (lg_sl ([.ref p0.toNat]) ++ List.replicate (1 - (lg_sl ([.ref p0.toNat])).length) Slot.unset).toArray = ls at hl ⊢
  have hl : lv_has ls 1 [(0, .ref p0.toNat)] := hl
  generalize hQ : MQ below (va_Qi (fun (r : Int32) (_ : Unit) => ∃ z : Int, r = iI z ∧ (rg z) ∧ (z = 0 ∨ (0 ≤ v p0 7 ∧ v p0 7 < 601))) (fun _ _ => True) A) ([.ref p0.toNat] : List Value).toArray s 0 0 A = Q
  suffices ST : ∀ (H : Heap) (locs : List Loc), va_P (dC, dI) vwCl (xG L cid K N v) H → va_S A s.heap H locs → W p l e ({ frames := 0, cells := 0, slots := 0, locals := 0 }) s m ([.ref p0.toNat] : List Value).toArray below meth c H locs 0 0 Q (F0 m 0 ls []) from ST _ _ hP hS
  clear hP hS
  intro H locs hP hS
  refine lv_aload_n hx hb dX7_kind_0 rfl (lv_at hl 0 rfl) ?_
  have h_1 : (-2147483648) ≤ v p0 7 ∧ v p0 7 ≤ 2147483647 := xf_7_7 hI q0
  refine gx_RX7_53 (y := v p0 7) hx hb hj hown hK hP q0 rfl dX7_kind_1 ?_
  refine xr_if_lt (tgt := 42) hx hb dX7_kind_4 (by decide) (by omega) (fun h_2 => ?_) (fun h_2 => ?_)
  · refine lv_iconst (v := iI 0) hx hb dX7_kind_42 rfl ?_
    rw [← hQ]
    exact W.iret (v := iI 0) hx hb hr (fun t ht hW => ⟨⟨iI 0, (), rfl, ⟨0, rfl, by omega, by omega⟩, trivial⟩, hS.F ht⟩) hS.2.2 dX7_kind_43
  · refine lv_aload_n hx hb dX7_kind_7 rfl (lv_at hl 0 rfl) ?_
    refine gx_RX7_53 (y := v p0 7) hx hb hj hown hK hP q0 rfl dX7_kind_8 ?_
    refine lv_aload_n hx hb dX7_kind_11 rfl (lv_at hl 0 rfl) ?_
    have h_3 : (-2147483648) ≤ v p0 6 ∧ v p0 6 ≤ 2147483647 := xf_7_6 hI q0
    refine gx_RX7_106 (y := v p0 6) hx hb hj hown hK hP q0 rfl dX7_kind_12 ?_
    refine xr_icmp_ge (tgt := 42) hx hb dX7_kind_15 (by decide) (by omega) (by omega) (fun h_4 => ?_) (fun h_4 => ?_)
    · refine lv_iconst (v := iI 0) hx hb dX7_kind_42 rfl ?_
      rw [← hQ]
      exact W.iret (v := iI 0) hx hb hr (fun t ht hW => ⟨⟨iI 0, (), rfl, ⟨0, rfl, by omega, by omega⟩, trivial⟩, hS.F ht⟩) hS.2.2 dX7_kind_43
    · refine lv_aload_n hx hb dX7_kind_18 rfl (lv_at hl 0 rfl) ?_
      refine gx_RX7_53 (y := v p0 7) hx hb hj hown hK hP q0 rfl dX7_kind_19 ?_
      refine lv_aload_n hx hb dX7_kind_22 rfl (lv_at hl 0 rfl) ?_
      have h_5 : ok L K (v p0 2) 21 := xf_7_2 hI q0
      have h_6 : N (v p0 2) = 601 := xn_21 hI h_5
      refine gx_RX7_15 (y := v p0 2) hx hb hj hown hK hP q0 ((xf_7_2 hI q0).1) rfl dX7_kind_23 ?_
      refine lx_21 (y := 601) hx hb hK hP h_5 (by omega) (by omega) dX7_kind_26 ?_
      refine xr_icmp_ge (tgt := 42) hx hb dX7_kind_27 (by decide) (by omega) (by omega) (fun h_7 => ?_) (fun h_7 => ?_)
      · refine lv_iconst (v := iI 0) hx hb dX7_kind_42 rfl ?_
        rw [← hQ]
        exact W.iret (v := iI 0) hx hb hr (fun t ht hW => ⟨⟨iI 0, (), rfl, ⟨0, rfl, by omega, by omega⟩, trivial⟩, hS.F ht⟩) hS.2.2 dX7_kind_43
      · refine lv_aload_n hx hb dX7_kind_30 rfl (lv_at hl 0 rfl) ?_
        refine gx_RX7_15 (y := v p0 2) hx hb hj hown hK hP q0 ((xf_7_2 hI q0).1) rfl dX7_kind_31 ?_
        refine lv_aload_n hx hb dX7_kind_34 rfl (lv_at hl 0 rfl) ?_
        refine gx_RX7_53 (y := v p0 7) hx hb hj hown hK hP q0 rfl dX7_kind_35 ?_
        have h_8 : (-2147483648) ≤ v (v p0 2) (v p0 7) ∧ v (v p0 2) (v p0 7) ≤ 2147483647 := xe_21 hI h_5 (by omega)
        refine ax_21 (y := v (v p0 2) (v p0 7)) hx hb hK hP h_5 (by omega) (by omega) (by omega) rfl dX7_kind_38 ?_
        refine lv_goto (tgt := 43) hx hb dX7_kind_39 (by decide) ?_
        rw [← hQ]
        exact W.iret (v := iI (v (v p0 2) (v p0 7))) hx hb hr (fun t ht hW => ⟨⟨iI (v (v p0 2) (v p0 7)), (), rfl, ⟨v (v p0 2) (v p0 7), rfl, by omega, by omega⟩, trivial⟩, hS.F ht⟩) hS.2.2 dX7_kind_43
set_option maxHeartbeats 2000000 in
set_option maxRecDepth 100000 in
theorem sX7_word (l : Launch) (dC : Nat → ClassId) (dI : Nat → Nat → Nat) (sz : Nat) (L : List Nat) (cid : Nat → ClassId) (K : Int → Nat) (N : Int → Int) (tW : Nat) (sK sV : Nat → Nat) (v : Int → Int → Int) (p0 : Int) (hI : xI L K N v) (q0 : ok L K p0 7) : Met l yX7_word (jk yX7_word cX7_word 1 (some .int)) ({ frames := 1, cells := 0, slots := 0, locals := 20 }) (va_Pc [.ref p0.toNat] (xP (dC, dI) (xG L cid K N v) (xT cid) tW sK sV sz)) (va_Qi (fun (r : Int32) (_ : Unit) => ∃ z : Int, r = iI z ∧ (rg z) ∧ (z = -1 ∨ (0 ≤ v p0 7 ∧ v p0 7 < 601))) (fun _ _ => True) (va_A [] sz)) 0 0 (va_A [] sz) := by
  refine Met.ofW (cc := cX7_word) (maxL := 1) (ret := (some .int)) (by decide) rfl ?_
  intro p e s m args below meth c s₁ B hml hv
  obtain ⟨rfl, ⟨hsz, hP, hK, hD0⟩, hX⟩ := hv
  have hx := B.exec
  have hb := B.bytes
  have hr := B.returns
  have hts := atoms_spec (ws := (jk yX7_word cX7_word 1 (some .int))) B.pre
  have hj : ∀ w ∈ jw, w.before ([.ref p0.toNat] : List Value).toArray s = true := fun w h => hts w (jm h)
  have hown : s.vm.findClass RX7 = some m.cls := findClass_of_methodNamed B.named
  subst hsz
  have hDw := hD0.self (sz := s.heap.size)
  have hAA : ∀ q : Nat, s.heap.size ≤ q → va_A (xG L cid K N v) s.heap.size q := fun q h => Or.inr h
  have hAw : ∀ q, va_A [] s.heap.size q → va_A (xG L cid K N v) s.heap.size q := ja_nil va_S.rf hAA
  generalize hAe : (va_A [] s.heap.size) = A at hAw ⊢
  have hA : ∀ q : Nat, s.heap.size ≤ q → A q := fun q h => by rw [← hAe]; exact Or.inr h
  have hS : va_S A s.heap s.heap [] := va_S.rf
  have hXa := hX.nar hAw
  have hP : va_P (dC, dI) vwCl (xG L cid K N v) s.heap := hP
  have hl := lv_entry ([.ref p0.toNat]) (n := 1) (Nat.le_of_ble_eq_true rfl)
  rw [lg_entry_eq]
  generalize (lg_sl ([.ref p0.toNat]) ++ List.replicate (1 - (lg_sl ([.ref p0.toNat])).length) Slot.unset).toArray = ls at hl ⊢
  have hl : lv_has ls 1 [(0, .ref p0.toNat)] := hl
  generalize hQ : MQ below (va_Qi (fun (r : Int32) (_ : Unit) => ∃ z : Int, r = iI z ∧ (rg z) ∧ (z = -1 ∨ (0 ≤ v p0 7 ∧ v p0 7 < 601))) (fun _ _ => True) A) ([.ref p0.toNat] : List Value).toArray s 0 0 A = Q
  suffices ST : ∀ (H : Heap) (locs : List Loc), va_P (dC, dI) vwCl (xG L cid K N v) H → va_S A s.heap H locs → W p l e ({ frames := 1, cells := 0, slots := 0, locals := 20 }) s m ([.ref p0.toNat] : List Value).toArray below meth c H locs 0 0 Q (F0 m 0 ls []) from ST _ _ hP hS
  clear hP hS
  intro H locs hP hS
  refine lv_aload_n hx hb dX7_word_0 rfl (lv_at hl 0 rfl) ?_
  refine jc_i (va_runV (As := []) (rest := []) ⟨hx, hb, hml, hown, hts⟩ (sX7_kind l dC dI _ L cid K N tW sK sV v p0 hI q0) (cwV 0 hts (jgoodV m_670 m_671 m_672 m_673 m_674) rfl rfl rfl (by decide +kernel) ⟨(Nat.le_of_ble_eq_true rfl), (Nat.le_of_ble_eq_true rfl)⟩) ⟨xP_blind, xrecv hK hP q0 rfl rfl, fun U hU hW => ⟨rfl, xP_of hU hW hP hK hDw hX hS hAw hAA⟩⟩ rfl rfl hl.1 rfl (lv_room (Nat.le_of_ble_eq_true rfl)) dX7_word_1 ⟨(Nat.le_of_ble_eq_true rfl), (Nat.le_of_ble_eq_true rfl)⟩) hP hS hA (fun r_1 H locs w_2 hP hS => ?_)
  obtain ⟨z_3, rfl, h_4, h_5⟩ := w_2
  have h_6 : (-2147483648) ≤ v p0 7 ∧ v p0 7 ≤ 2147483647 := xf_7_7 hI q0
  refine lv_iconst (v := iI 1) hx hb dX7_word_4 rfl ?_
  refine xr_icmp_ne (tgt := 20) hx hb dX7_word_5 (by decide) (by omega) (by omega) (fun h_7 => ?_) (fun h_7 => ?_)
  · refine lv_iconst (v := iI (-1)) hx hb dX7_word_20 rfl ?_
    rw [← hQ]
    exact W.iret (v := iI (-1)) hx hb hr (fun t ht hW => ⟨⟨iI (-1), (), rfl, ⟨(-1), rfl, by omega, by omega⟩, trivial⟩, hS.F ht⟩) hS.2.2 dX7_word_21
  · refine lv_aload_n hx hb dX7_word_8 rfl (lv_at hl 0 rfl) ?_
    have h_8 : ok L K (v p0 5) 24 := xf_7_5 hI q0
    have h_9 : N (v p0 5) = 601 := xn_24 hI h_8
    refine gx_RX7_25 (y := v p0 5) hx hb hj hown hK hP q0 ((xf_7_5 hI q0).1) rfl dX7_word_9 ?_
    refine lv_aload_n hx hb dX7_word_12 rfl (lv_at hl 0 rfl) ?_
    refine gx_RX7_53 (y := v p0 7) hx hb hj hown hK hP q0 rfl dX7_word_13 ?_
    have h_10 : (-2147483648) ≤ v (v p0 5) (v p0 7) ∧ v (v p0 5) (v p0 7) ≤ 2147483647 := xe_24 hI h_8 (by omega)
    refine ax_24 (y := v (v p0 5) (v p0 7)) hx hb hK hP h_8 (by omega) (by omega) (by omega) rfl dX7_word_16 ?_
    refine lv_goto (tgt := 21) hx hb dX7_word_17 (by decide) ?_
    rw [← hQ]
    exact W.iret (v := iI (v (v p0 5) (v p0 7))) hx hb hr (fun t ht hW => ⟨⟨iI (v (v p0 5) (v p0 7)), (), rfl, ⟨v (v p0 5) (v p0 7), rfl, by omega, by omega⟩, trivial⟩, hS.F ht⟩) hS.2.2 dX7_word_21
set_option maxHeartbeats 2000000 in
set_option maxRecDepth 100000 in
theorem sX7_refuse (l : Launch) (dC : Nat → ClassId) (dI : Nat → Nat → Nat) (sz : Nat) (L : List Nat) (cid : Nat → ClassId) (K : Int → Nat) (N : Int → Int) (tW : Nat) (sK sV : Nat → Nat) (v : Int → Int → Int) (p0 : Int) (hI : xI L K N v) (q0 : ok L K p0 7) : Met l yX7_refuse (jk yX7_refuse cX7_refuse 1 none) ({ frames := 0, cells := 0, slots := 0, locals := 0 }) (va_Pc [.ref p0.toNat] (xP (dC, dI) (xG L cid K N v) (xT cid) tW sK sV sz)) (va_Qv (fun (u : (Int → Int → Int)) => (xI L K N u) ∧ (fr K [(7, 8)] u v)) (fun u t => va_P (dC, dI) vwCl (xG L cid K N u) t.heap ∧ va_K (dC, dI) vwCl (xT cid) t ∧ va_D (va_A (xG L cid K N v) sz) (xG L cid K N u)) (va_A (xG L cid K N v) sz)) 0 0 (va_A (xG L cid K N v) sz) := by
  refine Met.ofW (cc := cX7_refuse) (maxL := 1) (ret := none) (by decide) rfl ?_
  intro p e s m args below meth c s₁ B hml hv
  obtain ⟨rfl, ⟨hsz, hP, hK, hD0⟩, hX⟩ := hv
  have hx := B.exec
  have hb := B.bytes
  have hr := B.returns
  have hts := atoms_spec (ws := (jk yX7_refuse cX7_refuse 1 none)) B.pre
  have hj : ∀ w ∈ jw, w.before ([.ref p0.toNat] : List Value).toArray s = true := fun w h => hts w (jm h)
  have hown : s.vm.findClass RX7 = some m.cls := findClass_of_methodNamed B.named
  subst hsz
  have hD := hD0.self (sz := s.heap.size)
  generalize hAe : (va_A (xG L cid K N v) s.heap.size) = A at hD hX ⊢
  have hA : ∀ q : Nat, s.heap.size ≤ q → A q := fun q h => by rw [← hAe]; exact Or.inr h
  have hS : va_S A s.heap s.heap [] := va_S.rf
  have hXa := hX
  have hP : va_P (dC, dI) vwCl (xG L cid K N v) s.heap := hP
  have hl := lv_entry ([.ref p0.toNat]) (n := 1) (Nat.le_of_ble_eq_true rfl)
  rw [lg_entry_eq]
  generalize (lg_sl ([.ref p0.toNat]) ++ List.replicate (1 - (lg_sl ([.ref p0.toNat])).length) Slot.unset).toArray = ls at hl ⊢
  have hl : lv_has ls 1 [(0, .ref p0.toNat)] := hl
  generalize hQ : MQ below (va_Qv (fun (u : (Int → Int → Int)) => (xI L K N u) ∧ (fr K [(7, 8)] u v)) (fun u t => va_P (dC, dI) vwCl (xG L cid K N u) t.heap ∧ va_K (dC, dI) vwCl (xT cid) t ∧ va_D A (xG L cid K N u)) A) ([.ref p0.toNat] : List Value).toArray s 0 0 A = Q
  suffices ST : ∀ (H : Heap) (locs : List Loc), va_P (dC, dI) vwCl (xG L cid K N v) H → va_S A s.heap H locs → W p l e ({ frames := 0, cells := 0, slots := 0, locals := 0 }) s m ([.ref p0.toNat] : List Value).toArray below meth c H locs 0 0 Q (F0 m 0 ls []) from ST _ _ hP hS
  clear hP hS
  intro H locs hP hS
  refine lv_aload_n hx hb dX7_refuse_0 rfl (lv_at hl 0 rfl) ?_
  have h_1 : (-2147483648) ≤ v p0 8 ∧ v p0 8 ≤ 2147483647 := xf_7_8 hI q0
  refine gx_RX7_50 (y := v p0 8) hx hb hj hown hK hP q0 rfl dX7_refuse_1 ?_
  refine lv_iconst (v := iI (-1)) hx hb dX7_refuse_4 rfl ?_
  refine xr_icmp_ne (tgt := 58) hx hb dX7_refuse_5 (by decide) (by omega) (by omega) (fun h_2 => ?_) (fun h_2 => ?_)
  · rw [← hQ]
    exact W.vret hx hb hr (fun t ht hW => ⟨⟨v, rfl, ⟨hI, fr_rf⟩, by rw [ht]; exact hP, va_K.moved hW.alike hK, hD⟩, hS.F ht⟩) hS.2.2 dX7_refuse_58
  · refine lv_aload_n hx hb dX7_refuse_8 rfl (lv_at hl 0 rfl) ?_
    refine lv_aload_n hx hb dX7_refuse_9 rfl (lv_at hl 0 rfl) ?_
    have h_3 : (-2147483648) ≤ v p0 7 ∧ v p0 7 ≤ 2147483647 := xf_7_7 hI q0
    refine gx_RX7_53 (y := v p0 7) hx hb hj hown hK hP q0 rfl dX7_refuse_10 ?_
    refine xr_if_lt (tgt := 51) hx hb dX7_refuse_13 (by decide) (by omega) (fun h_4 => ?_) (fun h_4 => ?_)
    · refine lv_aload_n hx hb dX7_refuse_51 rfl (lv_at hl 0 rfl) ?_
      have h_5 : 0 ≤ v p0 1 ∧ v p0 1 ≤ 600 := xf_7_1 hI q0
      refine gx_RX7_43 (y := v p0 1) hx hb hj hown hK hP q0 rfl dX7_refuse_52 ?_
      refine px_RX7_50 (y := v p0 1) hx hb hj hown hK hP hD hS hI q0 ⟨by omega, by omega⟩ dX7_refuse_55 (fun v_6 H locs f_7 e_8 o_9 I_10 hP hD hS => ?_)
      rw [← hQ]
      exact W.vret hx hb hr (fun t ht hW => ⟨⟨v_6, rfl, ⟨I_10, (fr_tr f_7 rfl fr_rf)⟩, by rw [ht]; exact hP, va_K.moved hW.alike hK, hD⟩, hS.F ht⟩) hS.2.2 dX7_refuse_58
    · refine lv_aload_n hx hb dX7_refuse_16 rfl (lv_at hl 0 rfl) ?_
      refine gx_RX7_53 (y := v p0 7) hx hb hj hown hK hP q0 rfl dX7_refuse_17 ?_
      refine lv_aload_n hx hb dX7_refuse_20 rfl (lv_at hl 0 rfl) ?_
      have h_11 : (-2147483648) ≤ v p0 6 ∧ v p0 6 ≤ 2147483647 := xf_7_6 hI q0
      refine gx_RX7_106 (y := v p0 6) hx hb hj hown hK hP q0 rfl dX7_refuse_21 ?_
      refine xr_icmp_ge (tgt := 51) hx hb dX7_refuse_24 (by decide) (by omega) (by omega) (fun h_12 => ?_) (fun h_12 => ?_)
      · refine lv_aload_n hx hb dX7_refuse_51 rfl (lv_at hl 0 rfl) ?_
        have h_13 : 0 ≤ v p0 1 ∧ v p0 1 ≤ 600 := xf_7_1 hI q0
        refine gx_RX7_43 (y := v p0 1) hx hb hj hown hK hP q0 rfl dX7_refuse_52 ?_
        refine px_RX7_50 (y := v p0 1) hx hb hj hown hK hP hD hS hI q0 ⟨by omega, by omega⟩ dX7_refuse_55 (fun v_14 H locs f_15 e_16 o_17 I_18 hP hD hS => ?_)
        rw [← hQ]
        exact W.vret hx hb hr (fun t ht hW => ⟨⟨v_14, rfl, ⟨I_18, (fr_tr f_15 rfl fr_rf)⟩, by rw [ht]; exact hP, va_K.moved hW.alike hK, hD⟩, hS.F ht⟩) hS.2.2 dX7_refuse_58
      · refine lv_aload_n hx hb dX7_refuse_27 rfl (lv_at hl 0 rfl) ?_
        refine gx_RX7_53 (y := v p0 7) hx hb hj hown hK hP q0 rfl dX7_refuse_28 ?_
        refine lv_aload_n hx hb dX7_refuse_31 rfl (lv_at hl 0 rfl) ?_
        have h_19 : ok L K (v p0 3) 22 := xf_7_3 hI q0
        have h_20 : N (v p0 3) = 601 := xn_22 hI h_19
        refine gx_RX7_19 (y := v p0 3) hx hb hj hown hK hP q0 ((xf_7_3 hI q0).1) rfl dX7_refuse_32 ?_
        refine lx_22 (y := 601) hx hb hK hP h_19 (by omega) (by omega) dX7_refuse_35 ?_
        refine xr_icmp_ge (tgt := 51) hx hb dX7_refuse_36 (by decide) (by omega) (by omega) (fun h_21 => ?_) (fun h_21 => ?_)
        · refine lv_aload_n hx hb dX7_refuse_51 rfl (lv_at hl 0 rfl) ?_
          have h_22 : 0 ≤ v p0 1 ∧ v p0 1 ≤ 600 := xf_7_1 hI q0
          refine gx_RX7_43 (y := v p0 1) hx hb hj hown hK hP q0 rfl dX7_refuse_52 ?_
          refine px_RX7_50 (y := v p0 1) hx hb hj hown hK hP hD hS hI q0 ⟨by omega, by omega⟩ dX7_refuse_55 (fun v_23 H locs f_24 e_25 o_26 I_27 hP hD hS => ?_)
          rw [← hQ]
          exact W.vret hx hb hr (fun t ht hW => ⟨⟨v_23, rfl, ⟨I_27, (fr_tr f_24 rfl fr_rf)⟩, by rw [ht]; exact hP, va_K.moved hW.alike hK, hD⟩, hS.F ht⟩) hS.2.2 dX7_refuse_58
        · refine lv_aload_n hx hb dX7_refuse_39 rfl (lv_at hl 0 rfl) ?_
          refine gx_RX7_19 (y := v p0 3) hx hb hj hown hK hP q0 ((xf_7_3 hI q0).1) rfl dX7_refuse_40 ?_
          refine lv_aload_n hx hb dX7_refuse_43 rfl (lv_at hl 0 rfl) ?_
          refine gx_RX7_53 (y := v p0 7) hx hb hj hown hK hP q0 rfl dX7_refuse_44 ?_
          have h_28 : (-2147483648) ≤ v (v p0 3) (v p0 7) ∧ v (v p0 3) (v p0 7) ≤ 2147483647 := xe_22 hI h_19 (by omega)
          refine ax_22 (y := v (v p0 3) (v p0 7)) hx hb hK hP h_19 (by omega) (by omega) (by omega) rfl dX7_refuse_47 ?_
          refine lv_goto (tgt := 55) hx hb dX7_refuse_48 (by decide) ?_
          refine px_RX7_50 (y := v (v p0 3) (v p0 7)) hx hb hj hown hK hP hD hS hI q0 ⟨by omega, by omega⟩ dX7_refuse_55 (fun v_29 H locs f_30 e_31 o_32 I_33 hP hD hS => ?_)
          rw [← hQ]
          exact W.vret hx hb hr (fun t ht hW => ⟨⟨v_29, rfl, ⟨I_33, (fr_tr f_30 rfl fr_rf)⟩, by rw [ht]; exact hP, va_K.moved hW.alike hK, hD⟩, hS.F ht⟩) hS.2.2 dX7_refuse_58
set_option maxHeartbeats 2000000 in
set_option maxRecDepth 100000 in
theorem sX7_emit (l : Launch) (dC : Nat → ClassId) (dI : Nat → Nat → Nat) (sz : Nat) (L : List Nat) (cid : Nat → ClassId) (K : Int → Nat) (N : Int → Int) (tW : Nat) (sK sV : Nat → Nat) (v : Int → Int → Int) (p0 : Int) (p1 : Int) (hI : xI L K N v) (q0 : ok L K p0 7) (q1 : rg p1) : Met l yX7_emit (jk yX7_emit cX7_emit 2 none) ({ frames := 0, cells := 0, slots := 0, locals := 0 }) (va_Pc [.ref p0.toNat, .int (iI p1)] (xP (dC, dI) (xG L cid K N v) (xT cid) tW sK sV sz)) (va_Qv (fun (u : (Int → Int → Int)) => (xI L K N u) ∧ (fr K [(7, 10), (25, (-1))] u v)) (fun u t => va_P (dC, dI) vwCl (xG L cid K N u) t.heap ∧ va_K (dC, dI) vwCl (xT cid) t ∧ va_D (va_A (xG L cid K N v) sz) (xG L cid K N u)) (va_A (xG L cid K N v) sz)) 0 0 (va_A (xG L cid K N v) sz) := by
  refine Met.ofW (cc := cX7_emit) (maxL := 2) (ret := none) (by decide) rfl ?_
  intro p e s m args below meth c s₁ B hml hv
  obtain ⟨rfl, ⟨hsz, hP, hK, hD0⟩, hX⟩ := hv
  have hx := B.exec
  have hb := B.bytes
  have hr := B.returns
  have hts := atoms_spec (ws := (jk yX7_emit cX7_emit 2 none)) B.pre
  have hj : ∀ w ∈ jw, w.before ([.ref p0.toNat, .int (iI p1)] : List Value).toArray s = true := fun w h => hts w (jm h)
  have hown : s.vm.findClass RX7 = some m.cls := findClass_of_methodNamed B.named
  subst hsz
  have hD := hD0.self (sz := s.heap.size)
  generalize hAe : (va_A (xG L cid K N v) s.heap.size) = A at hD hX ⊢
  have hA : ∀ q : Nat, s.heap.size ≤ q → A q := fun q h => by rw [← hAe]; exact Or.inr h
  have hS : va_S A s.heap s.heap [] := va_S.rf
  have hXa := hX
  have hP : va_P (dC, dI) vwCl (xG L cid K N v) s.heap := hP
  have hl := lv_entry ([.ref p0.toNat, .int (iI p1)]) (n := 2) (Nat.le_of_ble_eq_true rfl)
  rw [lg_entry_eq]
  generalize (lg_sl ([.ref p0.toNat, .int (iI p1)]) ++ List.replicate (2 - (lg_sl ([.ref p0.toNat, .int (iI p1)])).length) Slot.unset).toArray = ls at hl ⊢
  have hl : lv_has ls 2 [(0, .ref p0.toNat), (1, .int (iI p1))] := hl
  generalize hQ : MQ below (va_Qv (fun (u : (Int → Int → Int)) => (xI L K N u) ∧ (fr K [(7, 10), (25, (-1))] u v)) (fun u t => va_P (dC, dI) vwCl (xG L cid K N u) t.heap ∧ va_K (dC, dI) vwCl (xT cid) t ∧ va_D A (xG L cid K N u)) A) ([.ref p0.toNat, .int (iI p1)] : List Value).toArray s 0 0 A = Q
  suffices ST : ∀ (H : Heap) (locs : List Loc), va_P (dC, dI) vwCl (xG L cid K N v) H → va_S A s.heap H locs → W p l e ({ frames := 0, cells := 0, slots := 0, locals := 0 }) s m ([.ref p0.toNat, .int (iI p1)] : List Value).toArray below meth c H locs 0 0 Q (F0 m 0 ls []) from ST _ _ hP hS
  clear hP hS
  intro H locs hP hS
  refine lv_aload_n hx hb dX7_emit_0 rfl (lv_at hl 0 rfl) ?_
  have h_1 : (-2147483648) ≤ v p0 8 ∧ v p0 8 ≤ 2147483647 := xf_7_8 hI q0
  refine gx_RX7_50 (y := v p0 8) hx hb hj hown hK hP q0 rfl dX7_emit_1 ?_
  refine lv_iconst (v := iI (-1)) hx hb dX7_emit_4 rfl ?_
  refine xr_icmp_ne (tgt := 47) hx hb dX7_emit_5 (by decide) (by omega) (by omega) (fun h_2 => ?_) (fun h_2 => ?_)
  · rw [← hQ]
    exact W.vret hx hb hr (fun t ht hW => ⟨⟨v, rfl, ⟨hI, fr_rf⟩, by rw [ht]; exact hP, va_K.moved hW.alike hK, hD⟩, hS.F ht⟩) hS.2.2 dX7_emit_47
  · refine lv_aload_n hx hb dX7_emit_8 rfl (lv_at hl 0 rfl) ?_
    have h_3 : 0 ≤ v p0 10 ∧ v p0 10 ≤ 600 := xf_7_10 hI q0
    refine gx_RX7_56 (y := v p0 10) hx hb hj hown hK hP q0 rfl dX7_emit_9 ?_
    refine xr_if_lt (tgt := 47) hx hb dX7_emit_12 (by decide) (by omega) (fun h_4 => ?_) (fun h_4 => ?_)
    · exfalso; omega
    · refine lv_aload_n hx hb dX7_emit_15 rfl (lv_at hl 0 rfl) ?_
      refine gx_RX7_56 (y := v p0 10) hx hb hj hown hK hP q0 rfl dX7_emit_16 ?_
      refine lv_aload_n hx hb dX7_emit_19 rfl (lv_at hl 0 rfl) ?_
      have h_5 : ok L K (v p0 9) 25 := xf_7_9 hI q0
      have h_6 : N (v p0 9) = 600 := xn_25 hI h_5
      refine gx_RX7_28 (y := v p0 9) hx hb hj hown hK hP q0 ((xf_7_9 hI q0).1) rfl dX7_emit_20 ?_
      refine lx_25 (y := 600) hx hb hK hP h_5 (by omega) (by omega) dX7_emit_23 ?_
      refine xr_icmp_ge (tgt := 47) hx hb dX7_emit_24 (by decide) (by omega) (by omega) (fun h_7 => ?_) (fun h_7 => ?_)
      · rw [← hQ]
        exact W.vret hx hb hr (fun t ht hW => ⟨⟨v, rfl, ⟨hI, fr_rf⟩, by rw [ht]; exact hP, va_K.moved hW.alike hK, hD⟩, hS.F ht⟩) hS.2.2 dX7_emit_47
      · refine lv_aload_n hx hb dX7_emit_27 rfl (lv_at hl 0 rfl) ?_
        refine gx_RX7_28 (y := v p0 9) hx hb hj hown hK hP q0 ((xf_7_9 hI q0).1) rfl dX7_emit_28 ?_
        refine lv_aload_n hx hb dX7_emit_31 rfl (lv_at hl 0 rfl) ?_
        refine gx_RX7_56 (y := v p0 10) hx hb hj hown hK hP q0 rfl dX7_emit_32 ?_
        refine lv_iload_n hx hb dX7_emit_35 rfl (lv_at hl 1 rfl) ?_
        refine sx_25 (y := p1) hx hb hK hP hD hS hI h_5 (by omega) (by omega) (by omega) ⟨by omega, by omega⟩ dX7_emit_36 (fun v_8 H locs f_9 e_10 o_11 I_12 hP hD hS => ?_)
        refine lv_aload_n hx hb dX7_emit_37 rfl (lv_at hl 0 rfl) ?_
        refine lv_dup hx hb dX7_emit_38 rfl ?_
        refine gx_RX7_56 (y := v p0 10) hx hb hj hown hK hP q0 (fr_use q0 f_9 rfl) dX7_emit_39 ?_
        refine lv_iconst (v := iI 1) hx hb dX7_emit_42 rfl ?_
        refine xr_add hx hb dX7_emit_43 ?_
        refine px_RX7_56 (y := (v p0 10) + 1) hx hb hj hown hK hP hD hS I_12 q0 ⟨by omega, by omega⟩ dX7_emit_44 (fun v_13 H locs f_14 e_15 o_16 I_17 hP hD hS => ?_)
        rw [← hQ]
        exact W.vret hx hb hr (fun t ht hW => ⟨⟨v_13, rfl, ⟨I_17, (fr_tr f_14 rfl (fr_tr f_9 rfl fr_rf))⟩, by rw [ht]; exact hP, va_K.moved hW.alike hK, hD⟩, hS.F ht⟩) hS.2.2 dX7_emit_47
set_option maxHeartbeats 2000000 in
set_option maxRecDepth 100000 in
theorem sX7_advance (l : Launch) (dC : Nat → ClassId) (dI : Nat → Nat → Nat) (sz : Nat) (L : List Nat) (cid : Nat → ClassId) (K : Int → Nat) (N : Int → Int) (tW : Nat) (sK sV : Nat → Nat) (v : Int → Int → Int) (p0 : Int) (hI : xI L K N v) (q0 : ok L K p0 7) : Met l yX7_advance (jk yX7_advance cX7_advance 1 none) ({ frames := 0, cells := 0, slots := 0, locals := 0 }) (va_Pc [.ref p0.toNat] (xP (dC, dI) (xG L cid K N v) (xT cid) tW sK sV sz)) (va_Qv (fun (u : (Int → Int → Int)) => (xI L K N u) ∧ (fr K [(7, 7)] u v)) (fun u t => va_P (dC, dI) vwCl (xG L cid K N u) t.heap ∧ va_K (dC, dI) vwCl (xT cid) t ∧ va_D (va_A (xG L cid K N v) sz) (xG L cid K N u)) (va_A (xG L cid K N v) sz)) 0 0 (va_A (xG L cid K N v) sz) := by
  refine Met.ofW (cc := cX7_advance) (maxL := 1) (ret := none) (by decide) rfl ?_
  intro p e s m args below meth c s₁ B hml hv
  obtain ⟨rfl, ⟨hsz, hP, hK, hD0⟩, hX⟩ := hv
  have hx := B.exec
  have hb := B.bytes
  have hr := B.returns
  have hts := atoms_spec (ws := (jk yX7_advance cX7_advance 1 none)) B.pre
  have hj : ∀ w ∈ jw, w.before ([.ref p0.toNat] : List Value).toArray s = true := fun w h => hts w (jm h)
  have hown : s.vm.findClass RX7 = some m.cls := findClass_of_methodNamed B.named
  subst hsz
  have hD := hD0.self (sz := s.heap.size)
  generalize hAe : (va_A (xG L cid K N v) s.heap.size) = A at hD hX ⊢
  have hA : ∀ q : Nat, s.heap.size ≤ q → A q := fun q h => by rw [← hAe]; exact Or.inr h
  have hS : va_S A s.heap s.heap [] := va_S.rf
  have hXa := hX
  have hP : va_P (dC, dI) vwCl (xG L cid K N v) s.heap := hP
  have hl := lv_entry ([.ref p0.toNat]) (n := 1) (Nat.le_of_ble_eq_true rfl)
  rw [lg_entry_eq]
  generalize (lg_sl ([.ref p0.toNat]) ++ List.replicate (1 - (lg_sl ([.ref p0.toNat])).length) Slot.unset).toArray = ls at hl ⊢
  have hl : lv_has ls 1 [(0, .ref p0.toNat)] := hl
  generalize hQ : MQ below (va_Qv (fun (u : (Int → Int → Int)) => (xI L K N u) ∧ (fr K [(7, 7)] u v)) (fun u t => va_P (dC, dI) vwCl (xG L cid K N u) t.heap ∧ va_K (dC, dI) vwCl (xT cid) t ∧ va_D A (xG L cid K N u)) A) ([.ref p0.toNat] : List Value).toArray s 0 0 A = Q
  suffices ST : ∀ (H : Heap) (locs : List Loc), va_P (dC, dI) vwCl (xG L cid K N v) H → va_S A s.heap H locs → W p l e ({ frames := 0, cells := 0, slots := 0, locals := 0 }) s m ([.ref p0.toNat] : List Value).toArray below meth c H locs 0 0 Q (F0 m 0 ls []) from ST _ _ hP hS
  clear hP hS
  intro H locs hP hS
  refine lv_aload_n hx hb dX7_advance_0 rfl (lv_at hl 0 rfl) ?_
  have h_1 : (-2147483648) ≤ v p0 8 ∧ v p0 8 ≤ 2147483647 := xf_7_8 hI q0
  refine gx_RX7_50 (y := v p0 8) hx hb hj hown hK hP q0 rfl dX7_advance_1 ?_
  refine lv_iconst (v := iI (-1)) hx hb dX7_advance_4 rfl ?_
  refine xr_icmp_ne (tgt := 18) hx hb dX7_advance_5 (by decide) (by omega) (by omega) (fun h_2 => ?_) (fun h_2 => ?_)
  · rw [← hQ]
    exact W.vret hx hb hr (fun t ht hW => ⟨⟨v, rfl, ⟨hI, fr_rf⟩, by rw [ht]; exact hP, va_K.moved hW.alike hK, hD⟩, hS.F ht⟩) hS.2.2 dX7_advance_18
  · refine lv_aload_n hx hb dX7_advance_8 rfl (lv_at hl 0 rfl) ?_
    refine lv_dup hx hb dX7_advance_9 rfl ?_
    have h_3 : (-2147483648) ≤ v p0 7 ∧ v p0 7 ≤ 2147483647 := xf_7_7 hI q0
    refine gx_RX7_53 (y := v p0 7) hx hb hj hown hK hP q0 rfl dX7_advance_10 ?_
    refine lv_iconst (v := iI 1) hx hb dX7_advance_13 rfl ?_
    refine xr_add hx hb dX7_advance_14 ?_
    refine xr_kept (fun z_4 h_5 h_6 => ?_)
    refine px_RX7_53 (y := z_4) hx hb hj hown hK hP hD hS hI q0 ⟨by omega, by omega⟩ dX7_advance_15 (fun v_7 H locs f_8 e_9 o_10 I_11 hP hD hS => ?_)
    rw [← hQ]
    exact W.vret hx hb hr (fun t ht hW => ⟨⟨v_7, rfl, ⟨I_11, (fr_tr f_8 rfl fr_rf)⟩, by rw [ht]; exact hP, va_K.moved hW.alike hK, hD⟩, hS.F ht⟩) hS.2.2 dX7_advance_18
set_option maxHeartbeats 2000000 in
set_option maxRecDepth 100000 in
theorem sX7_readFactor_q8 (l : Launch) (dC : Nat → ClassId) (dI : Nat → Nat → Nat) (sz : Nat) (L : List Nat) (cid : Nat → ClassId) (K : Int → Nat) (N : Int → Int) (tW : Nat) (sK sV : Nat → Nat) (v : Int → Int → Int) (p0 : Int) (p1 : Int) (hI : xI L K N v) (q0 : ok L K p0 7) (q1 : rg p1) (k1 : 8 ≤ p1 ∧ p1 ≤ 8) : Met l yX7_readFactor (jk yX7_readFactor cX7_readFactor 4 none) ({ frames := 2, cells := 0, slots := 0, locals := 40 }) (va_Pc [.ref p0.toNat, .int (iI p1)] (xP (dC, dI) (xG L cid K N v) (xT cid) tW sK sV sz)) (va_Qv (fun (u : (Int → Int → Int)) => (xI L K N u) ∧ (fr K [(7, 7), (7, 8), (7, 10), (25, (-1))] u v)) (fun u t => va_P (dC, dI) vwCl (xG L cid K N u) t.heap ∧ va_K (dC, dI) vwCl (xT cid) t ∧ va_D (va_A (xG L cid K N v) sz) (xG L cid K N u)) (va_A (xG L cid K N v) sz)) 0 0 (va_A (xG L cid K N v) sz) := by
  refine Met.ofW (cc := cX7_readFactor) (maxL := 4) (ret := none) (by decide) rfl ?_
  intro p e s m args below meth c s₁ B hml hv
  obtain ⟨rfl, ⟨hsz, hP, hK, hD0⟩, hX⟩ := hv
  have hx := B.exec
  have hb := B.bytes
  have hr := B.returns
  have hts := atoms_spec (ws := (jk yX7_readFactor cX7_readFactor 4 none)) B.pre
  have hj : ∀ w ∈ jw, w.before ([.ref p0.toNat, .int (iI p1)] : List Value).toArray s = true := fun w h => hts w (jm h)
  have hown : s.vm.findClass RX7 = some m.cls := findClass_of_methodNamed B.named
  subst hsz
  have hD := hD0.self (sz := s.heap.size)
  generalize hAe : (va_A (xG L cid K N v) s.heap.size) = A at hD hX ⊢
  have hA : ∀ q : Nat, s.heap.size ≤ q → A q := fun q h => by rw [← hAe]; exact Or.inr h
  have hS : va_S A s.heap s.heap [] := va_S.rf
  have hXa := hX
  have hP : va_P (dC, dI) vwCl (xG L cid K N v) s.heap := hP
  have hl := lv_entry ([.ref p0.toNat, .int (iI p1)]) (n := 4) (Nat.le_of_ble_eq_true rfl)
  rw [lg_entry_eq]
  generalize (lg_sl ([.ref p0.toNat, .int (iI p1)]) ++ List.replicate (4 - (lg_sl ([.ref p0.toNat, .int (iI p1)])).length) Slot.unset).toArray = ls at hl ⊢
  have hl : lv_has ls 4 [(0, .ref p0.toNat), (1, .int (iI p1))] := hl
  generalize hQ : MQ below (va_Qv (fun (u : (Int → Int → Int)) => (xI L K N u) ∧ (fr K [(7, 7), (7, 8), (7, 10), (25, (-1))] u v)) (fun u t => va_P (dC, dI) vwCl (xG L cid K N u) t.heap ∧ va_K (dC, dI) vwCl (xT cid) t ∧ va_D A (xG L cid K N u)) A) ([.ref p0.toNat, .int (iI p1)] : List Value).toArray s 0 0 A = Q
  suffices ST : ∀ (H : Heap) (locs : List Loc), va_P (dC, dI) vwCl (xG L cid K N v) H → va_S A s.heap H locs → W p l e ({ frames := 2, cells := 0, slots := 0, locals := 40 }) s m ([.ref p0.toNat, .int (iI p1)] : List Value).toArray below meth c H locs 0 0 Q (F0 m 0 ls []) from ST _ _ hP hS
  clear hP hS
  intro H locs hP hS
  refine lv_aload_n hx hb dX7_readFactor_0 rfl (lv_at hl 0 rfl) ?_
  have h_1 : (-2147483648) ≤ v p0 8 ∧ v p0 8 ≤ 2147483647 := xf_7_8 hI q0
  refine gx_RX7_50 (y := v p0 8) hx hb hj hown hK hP q0 rfl dX7_readFactor_1 ?_
  refine lv_iconst (v := iI (-1)) hx hb dX7_readFactor_4 rfl ?_
  refine xr_icmp_eq (tgt := 9) hx hb dX7_readFactor_5 (by decide) (by omega) (by omega) (fun h_2 => ?_) (fun h_2 => ?_)
  · refine lv_aload_n hx hb dX7_readFactor_9 rfl (lv_at hl 0 rfl) ?_
    refine jc_i (va_runV (As := []) (rest := []) ⟨hx, hb, hml, hown, hts⟩ (sX7_kind l dC dI _ L cid K N tW sK sV v p0 hI q0) (cwV 0 hts (jgoodV m_670 m_671 m_672 m_673 m_674) rfl rfl rfl (by decide +kernel) ⟨(Nat.le_of_ble_eq_true rfl), (Nat.le_of_ble_eq_true rfl)⟩) ⟨xP_blind, xrecv hK hP q0 rfl rfl, fun U hU hW => ⟨rfl, xP_of hU hW hP hK hD hX hS (fun _ h => h) hA⟩⟩ rfl rfl hl.1 rfl (lv_room (Nat.le_of_ble_eq_true rfl)) dX7_readFactor_10 ⟨(Nat.le_of_ble_eq_true rfl), (Nat.le_of_ble_eq_true rfl)⟩) hP hS hA (fun r_3 H locs w_4 hP hS => ?_)
    obtain ⟨z_5, rfl, h_6, h_7⟩ := w_4
    have h_8 : (-2147483648) ≤ v p0 7 ∧ v p0 7 ≤ 2147483647 := xf_7_7 hI q0
    refine lv_istore_n (lv' := [(2, .int (iI z_5)), (0, .ref p0.toNat), (1, .int (iI p1))]) hx hb dX7_readFactor_13 rfl hl (by decide) rfl (fun ls hl => ?_)
    refine lv_aload_n hx hb dX7_readFactor_14 rfl (lv_at hl 1 rfl) ?_
    refine jc_i (va_runV (As := []) (rest := []) ⟨hx, hb, hml, hown, hts⟩ (sX7_word l dC dI _ L cid K N tW sK sV v p0 hI q0) (cwV 0 hts (jgoodV m_675 m_676 m_677 m_673 m_678) rfl rfl rfl (by decide +kernel) ⟨(Nat.le_of_ble_eq_true rfl), (Nat.le_of_ble_eq_true rfl)⟩) ⟨xP_blind, xrecv hK hP q0 rfl rfl, fun U hU hW => ⟨rfl, xP_of hU hW hP hK hD hX hS (fun _ h => h) hA⟩⟩ rfl rfl hl.1 rfl (lv_room (Nat.le_of_ble_eq_true rfl)) dX7_readFactor_15 ⟨(Nat.le_of_ble_eq_true rfl), (Nat.le_of_ble_eq_true rfl)⟩) hP hS hA (fun r_9 H locs w_10 hP hS => ?_)
    obtain ⟨z_11, rfl, h_12, h_13⟩ := w_10
    refine lv_istore_n (lv' := [(3, .int (iI z_11)), (2, .int (iI z_5)), (0, .ref p0.toNat), (1, .int (iI p1))]) hx hb dX7_readFactor_18 rfl hl (by decide) rfl (fun ls hl => ?_)
    refine lv_iload_n hx hb dX7_readFactor_19 rfl (lv_at hl 0 rfl) ?_
    refine lv_bipush (v := iI 12) hx hb dX7_readFactor_20 rfl ?_
    have J48 : ∀ (H : Heap) (locs : List Loc) (ls : Array Slot), va_P (dC, dI) vwCl (xG L cid K N v) H → va_D A (xG L cid K N v) → va_S A s.heap H locs → lv_has ls 4 [(3, .int (iI z_11)), (2, .int (iI z_5)), (0, .ref p0.toNat), (1, .int (iI p1))] → W p l e ({ frames := 2, cells := 0, slots := 0, locals := 40 }) s m ([.ref p0.toNat, .int (iI p1)] : List Value).toArray below meth c H locs 0 0 Q (F0 m 48 ls []) := by
      intro H locs ls hP hD hS hl
      refine lv_iload_n hx hb dX7_readFactor_48 rfl (lv_at hl 1 rfl) ?_
      refine lv_iconst (v := iI 2) hx hb dX7_readFactor_49 rfl ?_
      have J87 : ∀ (H : Heap) (locs : List Loc) (ls : Array Slot), va_P (dC, dI) vwCl (xG L cid K N v) H → va_D A (xG L cid K N v) → va_S A s.heap H locs → lv_has ls 4 [(3, .int (iI z_11)), (2, .int (iI z_5)), (0, .ref p0.toNat), (1, .int (iI p1))] → W p l e ({ frames := 2, cells := 0, slots := 0, locals := 40 }) s m ([.ref p0.toNat, .int (iI p1)] : List Value).toArray below meth c H locs 0 0 Q (F0 m 87 ls []) := by
        intro H locs ls hP hD hS hl
        refine lv_iload_n hx hb dX7_readFactor_87 rfl (lv_at hl 1 rfl) ?_
        refine lv_bipush (v := iI 40) hx hb dX7_readFactor_88 rfl ?_
        have J119 : ∀ (H : Heap) (locs : List Loc) (ls : Array Slot), va_P (dC, dI) vwCl (xG L cid K N v) H → va_D A (xG L cid K N v) → va_S A s.heap H locs → lv_has ls 4 [(3, .int (iI z_11)), (2, .int (iI z_5)), (0, .ref p0.toNat), (1, .int (iI p1))] → W p l e ({ frames := 2, cells := 0, slots := 0, locals := 40 }) s m ([.ref p0.toNat, .int (iI p1)] : List Value).toArray below meth c H locs 0 0 Q (F0 m 119 ls []) := by
          intro H locs ls hP hD hS hl
          refine lv_aload_n hx hb dX7_readFactor_119 rfl (lv_at hl 2 rfl) ?_
          refine jcg_v (va_runV (As := []) (rest := []) ⟨hx, hb, hml, hown, hts⟩ (sX7_refuse l dC dI _ L cid K N tW sK sV v p0 hI q0) (cwV 0 hts (jgoodV m_679 m_680 m_681 m_673 m_682) rfl rfl rfl (by decide +kernel) ⟨(Nat.le_of_ble_eq_true rfl), (Nat.le_of_ble_eq_true rfl)⟩) ⟨xP_blind, xrecv hK hP q0 rfl rfl, fun U hU hW => ⟨rfl, xP_of hU hW hP hK hD hX hS (fun _ h => h) hA⟩⟩ rfl rfl hl.1 rfl (lv_room (Nat.le_of_ble_eq_true rfl)) dX7_readFactor_120 ⟨(Nat.le_of_ble_eq_true rfl), (Nat.le_of_ble_eq_true rfl)⟩) hD hS hA (fun v_17 H locs w_15 hP hK hD hS => ?_)
          obtain ⟨I_19, f_18⟩ := w_15
          have hP : va_P (dC, dI) vwCl (xG L cid K N v_17) H := hP
          have hD : va_D A (xG L cid K N v_17) := hD
          rw [← hQ]
          exact W.vret hx hb hr (fun t ht hW => ⟨⟨v_17, rfl, ⟨I_19, (fr_tr f_18 rfl fr_rf)⟩, by rw [ht]; exact hP, va_K.moved hW.alike hK, hD⟩, hS.F ht⟩) hS.2.2 dX7_readFactor_123
        refine xr_icmp_ne (tgt := 119) hx hb dX7_readFactor_90 (by decide) (by omega) (by omega) (fun h_20 => ?_) (fun h_20 => ?_)
        · exact J119 H locs ls hP hD hS hl
        · refine lv_iload_n hx hb dX7_readFactor_93 rfl (lv_at hl 3 rfl) ?_
          refine lv_bipush (v := iI 8) hx hb dX7_readFactor_94 rfl ?_
          refine xr_icmp_ge (tgt := 119) hx hb dX7_readFactor_96 (by decide) (by omega) (by omega) (fun h_21 => ?_) (fun h_21 => ?_)
          · exact J119 H locs ls hP hD hS hl
          · exfalso; omega
      refine xr_icmp_ne (tgt := 87) hx hb dX7_readFactor_50 (by decide) (by omega) (by omega) (fun h_22 => ?_) (fun h_22 => ?_)
      · exact J87 H locs ls hP hD hS hl
      · refine lv_aload_n hx hb dX7_readFactor_53 rfl (lv_at hl 2 rfl) ?_
        have h_23 : ok L K (v p0 5) 24 := xf_7_5 hI q0
        have h_24 : N (v p0 5) = 601 := xn_24 hI h_23
        refine gx_RX7_25 (y := v p0 5) hx hb hj hown hK hP q0 ((xf_7_5 hI q0).1) rfl dX7_readFactor_54 ?_
        refine lv_aload_n hx hb dX7_readFactor_57 rfl (lv_at hl 2 rfl) ?_
        refine gx_RX7_53 (y := v p0 7) hx hb hj hown hK hP q0 rfl dX7_readFactor_58 ?_
        have h_25 : (-2147483648) ≤ v (v p0 5) (v p0 7) ∧ v (v p0 5) (v p0 7) ≤ 2147483647 := xe_24 hI h_23 (by omega)
        refine ax_24 (y := v (v p0 5) (v p0 7)) hx hb hK hP h_23 (by omega) (by omega) (by omega) rfl dX7_readFactor_61 ?_
        refine lv_ldc hx hb hown (hts (.constant RX7 140 99999) (jm m_683)) dX7_readFactor_62 ?_
        refine jt_i (iI 99999) (by decide) ?_
        refine xr_icmp_gt (tgt := 87) hx hb dX7_readFactor_64 (by decide) (by omega) (by omega) (fun h_26 => ?_) (fun h_26 => ?_)
        · exact J87 H locs ls hP hD hS hl
        · refine lv_aload_n hx hb dX7_readFactor_67 rfl (lv_at hl 2 rfl) ?_
          refine lv_aload_n hx hb dX7_readFactor_68 rfl (lv_at hl 2 rfl) ?_
          refine gx_RX7_25 (y := v p0 5) hx hb hj hown hK hP q0 ((xf_7_5 hI q0).1) rfl dX7_readFactor_69 ?_
          refine lv_aload_n hx hb dX7_readFactor_72 rfl (lv_at hl 2 rfl) ?_
          refine gx_RX7_53 (y := v p0 7) hx hb hj hown hK hP q0 rfl dX7_readFactor_73 ?_
          refine ax_24 (y := v (v p0 5) (v p0 7)) hx hb hK hP h_23 (by omega) (by omega) (by omega) rfl dX7_readFactor_76 ?_
          refine jcg_v (va_runV (As := [.int (iI (v (v p0 5) (v p0 7)))]) (rest := []) ⟨hx, hb, hml, hown, hts⟩ (sX7_emit l dC dI _ L cid K N tW sK sV v p0 (v (v p0 5) (v p0 7)) hI q0 (by omega)) (cwV 1 hts (jgoodV m_684 m_685 m_686 m_673 m_687) rfl rfl rfl (by decide +kernel) ⟨(Nat.le_of_ble_eq_true rfl), (Nat.le_of_ble_eq_true rfl)⟩) ⟨xP_blind, xrecv hK hP q0 rfl rfl, fun U hU hW => ⟨rfl, xP_of hU hW hP hK hD hX hS (fun _ h => h) hA⟩⟩ rfl rfl hl.1 rfl (lv_room (Nat.le_of_ble_eq_true rfl)) dX7_readFactor_77 ⟨(Nat.le_of_ble_eq_true rfl), (Nat.le_of_ble_eq_true rfl)⟩) hD hS hA (fun v_30 H locs w_28 hP hK hD hS => ?_)
          obtain ⟨I_32, f_31⟩ := w_28
          have hP : va_P (dC, dI) vwCl (xG L cid K N v_30) H := hP
          have hD : va_D A (xG L cid K N v_30) := hD
          refine lv_aload_n hx hb dX7_readFactor_80 rfl (lv_at hl 2 rfl) ?_
          refine jcg_v (va_runV (As := []) (rest := []) ⟨hx, hb, hml, hown, hts⟩ (sX7_advance l dC dI _ L cid K N tW sK sV v_30 p0 I_32 q0) (cwV 0 hts (jgoodV m_688 m_689 m_690 m_673 m_691) rfl rfl rfl (by decide +kernel) ⟨(Nat.le_of_ble_eq_true rfl), (Nat.le_of_ble_eq_true rfl)⟩) ⟨xP_blind, xrecv hK hP q0 rfl rfl, fun U hU hW => ⟨rfl, xP_of hU hW hP hK hD hX hS (fun _ h => h) hA⟩⟩ rfl rfl hl.1 rfl (lv_room (Nat.le_of_ble_eq_true rfl)) dX7_readFactor_81 ⟨(Nat.le_of_ble_eq_true rfl), (Nat.le_of_ble_eq_true rfl)⟩) hD hS hA (fun v_36 H locs w_34 hP hK hD hS => ?_)
          obtain ⟨I_38, f_37⟩ := w_34
          have hP : va_P (dC, dI) vwCl (xG L cid K N v_36) H := hP
          have hD : va_D A (xG L cid K N v_36) := hD
          refine lv_goto (tgt := 123) hx hb dX7_readFactor_84 (by decide) ?_
          rw [← hQ]
          exact W.vret hx hb hr (fun t ht hW => ⟨⟨v_36, rfl, ⟨I_38, (fr_tr f_37 rfl (fr_tr f_31 rfl fr_rf))⟩, by rw [ht]; exact hP, va_K.moved hW.alike hK, hD⟩, hS.F ht⟩) hS.2.2 dX7_readFactor_123
    refine xr_icmp_lt (tgt := 48) hx hb dX7_readFactor_22 (by decide) (by omega) (by omega) (fun h_39 => ?_) (fun h_39 => ?_)
    · exact J48 H locs ls hP hD hS hl
    · refine lv_iload_n hx hb dX7_readFactor_25 rfl (lv_at hl 0 rfl) ?_
      refine lv_bipush (v := iI 20) hx hb dX7_readFactor_26 rfl ?_
      refine xr_icmp_gt (tgt := 48) hx hb dX7_readFactor_28 (by decide) (by omega) (by omega) (fun h_40 => ?_) (fun h_40 => ?_)
      · exact J48 H locs ls hP hD hS hl
      · refine lv_aload_n hx hb dX7_readFactor_31 rfl (lv_at hl 2 rfl) ?_
        refine lv_iconst (v := iI (-1)) hx hb dX7_readFactor_32 rfl ?_
        refine lv_iload_n hx hb dX7_readFactor_33 rfl (lv_at hl 0 rfl) ?_
        refine lv_bipush (v := iI 12) hx hb dX7_readFactor_34 rfl ?_
        refine xr_sub hx hb dX7_readFactor_36 ?_
        refine xr_sub hx hb dX7_readFactor_37 ?_
        refine jcg_v (va_runV (As := [.int (iI ((-1) - (z_11 - 12)))]) (rest := []) ⟨hx, hb, hml, hown, hts⟩ (sX7_emit l dC dI _ L cid K N tW sK sV v p0 ((-1) - (z_11 - 12)) hI q0 (by omega)) (cwV 1 hts (jgoodV m_684 m_685 m_686 m_673 m_687) rfl rfl rfl (by decide +kernel) ⟨(Nat.le_of_ble_eq_true rfl), (Nat.le_of_ble_eq_true rfl)⟩) ⟨xP_blind, xrecv hK hP q0 rfl rfl, fun U hU hW => ⟨rfl, xP_of hU hW hP hK hD hX hS (fun _ h => h) hA⟩⟩ rfl rfl hl.1 rfl (lv_room (Nat.le_of_ble_eq_true rfl)) dX7_readFactor_38 ⟨(Nat.le_of_ble_eq_true rfl), (Nat.le_of_ble_eq_true rfl)⟩) hD hS hA (fun v_44 H locs w_42 hP hK hD hS => ?_)
        obtain ⟨I_46, f_45⟩ := w_42
        have hP : va_P (dC, dI) vwCl (xG L cid K N v_44) H := hP
        have hD : va_D A (xG L cid K N v_44) := hD
        refine lv_aload_n hx hb dX7_readFactor_41 rfl (lv_at hl 2 rfl) ?_
        refine jcg_v (va_runV (As := []) (rest := []) ⟨hx, hb, hml, hown, hts⟩ (sX7_advance l dC dI _ L cid K N tW sK sV v_44 p0 I_46 q0) (cwV 0 hts (jgoodV m_688 m_689 m_690 m_673 m_691) rfl rfl rfl (by decide +kernel) ⟨(Nat.le_of_ble_eq_true rfl), (Nat.le_of_ble_eq_true rfl)⟩) ⟨xP_blind, xrecv hK hP q0 rfl rfl, fun U hU hW => ⟨rfl, xP_of hU hW hP hK hD hX hS (fun _ h => h) hA⟩⟩ rfl rfl hl.1 rfl (lv_room (Nat.le_of_ble_eq_true rfl)) dX7_readFactor_42 ⟨(Nat.le_of_ble_eq_true rfl), (Nat.le_of_ble_eq_true rfl)⟩) hD hS hA (fun v_50 H locs w_48 hP hK hD hS => ?_)
        obtain ⟨I_52, f_51⟩ := w_48
        have hP : va_P (dC, dI) vwCl (xG L cid K N v_50) H := hP
        have hD : va_D A (xG L cid K N v_50) := hD
        refine lv_goto (tgt := 123) hx hb dX7_readFactor_45 (by decide) ?_
        rw [← hQ]
        exact W.vret hx hb hr (fun t ht hW => ⟨⟨v_50, rfl, ⟨I_52, (fr_tr f_51 rfl (fr_tr f_45 rfl fr_rf))⟩, by rw [ht]; exact hP, va_K.moved hW.alike hK, hD⟩, hS.F ht⟩) hS.2.2 dX7_readFactor_123
  · rw [← hQ]
    exact W.vret hx hb hr (fun t ht hW => ⟨⟨v, rfl, ⟨hI, fr_rf⟩, by rw [ht]; exact hP, va_K.moved hW.alike hK, hD⟩, hS.F ht⟩) hS.2.2 dX7_readFactor_8
