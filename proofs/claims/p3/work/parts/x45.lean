set_option maxHeartbeats 2000000 in
set_option maxRecDepth 100000 in
theorem sX6_turn (l : Launch) (dC : Nat → ClassId) (dI : Nat → Nat → Nat) (sz : Nat) (L : List Nat) (cid : Nat → ClassId) (K : Int → Nat) (N : Int → Int) (tW : Nat) (sK sV : Nat → Nat) (v : Int → Int → Int) (p0 : Int) (p1 : Int) (hI : xI L K N v) (q0 : ok L K p0 6) (q1 : rg p1) : Met l yX6_turn (jk yX6_turn cX6_turn 2 none) ({ frames := 0, cells := 0, slots := 0, locals := 0 }) (va_Pc [.ref p0.toNat, .int (iI p1)] (xP (dC, dI) (xG L cid K N v) (xT cid) tW sK sV sz)) (va_Qv (fun (u : (Int → Int → Int)) => (xI L K N u) ∧ (fr K [(6, 3), (6, 4), (6, 5)] u v)) (fun u t => va_P (dC, dI) vwCl (xG L cid K N u) t.heap ∧ va_K (dC, dI) vwCl (xT cid) t ∧ va_D (va_A (xG L cid K N v) sz) (xG L cid K N u)) (va_A (xG L cid K N v) sz)) 0 0 (va_A (xG L cid K N v) sz) := by
  refine Met.ofW (cc := cX6_turn) (maxL := 2) (ret := none) (by decide) rfl ?_
  intro p e s m args below meth c s₁ B hml hv
  obtain ⟨rfl, ⟨hsz, hP, hK, hD0⟩, hX⟩ := hv
  have hx := B.exec
  have hb := B.bytes
  have hr := B.returns
  have hts := atoms_spec (ws := (jk yX6_turn cX6_turn 2 none)) B.pre
  have hj : ∀ w ∈ jw, w.before ([.ref p0.toNat, .int (iI p1)] : List Value).toArray s = true := fun w h => hts w (jm h)
  have hown : s.vm.findClass RX6 = some m.cls := findClass_of_methodNamed B.named
  subst hsz
  have hD := hD0.self (sz := s.heap.size)
  generalize hAe : (va_A (xG L cid K N v) s.heap.size) = A at hD hX ⊢
  have hA : ∀ q : Nat, s.heap.size ≤ q → A q := fun q h => by rw [← hAe]; exact Or.inr h
  have hS : va_S A s.heap s.heap [] := va_S.rf
  have hXa := hX
  have hP : va_P (dC, dI) vwCl (xG L cid K N v) s.heap := hP
  have hl := lv_entry ([.ref p0.toNat, .int (iI p1)]) (n := 2) (Nat.le_of_ble_eq_true rfl)
  rw [lg_entry_eq]
  generalize (lg_sl ([.ref p0.toNat, .int (iI p1)]) ++ List.replicate (2 - (lg_sl ([.ref p0.toNat, .int (iI p1)])).length) Slot.unset).toArray = ls at hl ⊢
  have hl : lv_has ls 2 [(0, .ref p0.toNat), (1, .int (iI p1))] := hl
  generalize hQ : MQ below (va_Qv (fun (u : (Int → Int → Int)) => (xI L K N u) ∧ (fr K [(6, 3), (6, 4), (6, 5)] u v)) (fun u t => va_P (dC, dI) vwCl (xG L cid K N u) t.heap ∧ va_K (dC, dI) vwCl (xT cid) t ∧ va_D A (xG L cid K N u)) A) ([.ref p0.toNat, .int (iI p1)] : List Value).toArray s 0 0 A = Q
  suffices ST : ∀ (H : Heap) (locs : List Loc), va_P (dC, dI) vwCl (xG L cid K N v) H → va_S A s.heap H locs → W p l e ({ frames := 0, cells := 0, slots := 0, locals := 0 }) s m ([.ref p0.toNat, .int (iI p1)] : List Value).toArray below meth c H locs 0 0 Q (F0 m 0 ls []) from ST _ _ hP hS
  clear hP hS
  intro H locs hP hS
  refine lv_iload_n hx hb dX6_turn_0 rfl (lv_at hl 1 rfl) ?_
  refine lv_iconst (v := iI 1) hx hb dX6_turn_1 rfl ?_
  refine xr_icmp_ne (tgt := 13) hx hb dX6_turn_2 (by decide) (by omega) (by omega) (fun h_1 => ?_) (fun h_1 => ?_)
  · refine lv_iload_n hx hb dX6_turn_13 rfl (lv_at hl 1 rfl) ?_
    refine lv_iconst (v := iI 2) hx hb dX6_turn_14 rfl ?_
    refine xr_icmp_ne (tgt := 37) hx hb dX6_turn_15 (by decide) (by omega) (by omega) (fun h_2 => ?_) (fun h_2 => ?_)
    · refine lv_aload_n hx hb dX6_turn_37 rfl (lv_at hl 0 rfl) ?_
      refine lv_aload_n hx hb dX6_turn_38 rfl (lv_at hl 0 rfl) ?_
      have h_3 : 0 ≤ v p0 5 ∧ v p0 5 ≤ 1 := xf_6_5 hI q0
      refine gx_RX6_35 (y := v p0 5) hx hb hj hown hK hP q0 rfl dX6_turn_39 ?_
      refine xr_if_ne (tgt := 49) hx hb dX6_turn_42 (by decide) (by omega) (fun h_4 => ?_) (fun h_4 => ?_)
      · refine lv_iconst (v := iI 0) hx hb dX6_turn_49 rfl ?_
        refine px_RX6_35 (y := 0) hx hb hj hown hK hP hD hS hI q0 ⟨by omega, by omega⟩ dX6_turn_50 (fun v_5 H locs f_6 e_7 o_8 I_9 hP hD hS => ?_)
        rw [← hQ]
        exact W.vret hx hb hr (fun t ht hW => ⟨⟨v_5, rfl, ⟨I_9, (fr_tr f_6 rfl fr_rf)⟩, by rw [ht]; exact hP, va_K.moved hW.alike hK, hD⟩, hS.F ht⟩) hS.2.2 dX6_turn_53
      · refine lv_iconst (v := iI 1) hx hb dX6_turn_45 rfl ?_
        refine lv_goto (tgt := 50) hx hb dX6_turn_46 (by decide) ?_
        refine px_RX6_35 (y := 1) hx hb hj hown hK hP hD hS hI q0 ⟨by omega, by omega⟩ dX6_turn_50 (fun v_10 H locs f_11 e_12 o_13 I_14 hP hD hS => ?_)
        rw [← hQ]
        exact W.vret hx hb hr (fun t ht hW => ⟨⟨v_10, rfl, ⟨I_14, (fr_tr f_11 rfl fr_rf)⟩, by rw [ht]; exact hP, va_K.moved hW.alike hK, hD⟩, hS.F ht⟩) hS.2.2 dX6_turn_53
    · refine lv_aload_n hx hb dX6_turn_18 rfl (lv_at hl 0 rfl) ?_
      refine lv_aload_n hx hb dX6_turn_19 rfl (lv_at hl 0 rfl) ?_
      have h_15 : 0 ≤ v p0 4 ∧ v p0 4 ≤ 1 := xf_6_4 hI q0
      refine gx_RX6_32 (y := v p0 4) hx hb hj hown hK hP q0 rfl dX6_turn_20 ?_
      refine xr_if_ne (tgt := 30) hx hb dX6_turn_23 (by decide) (by omega) (fun h_16 => ?_) (fun h_16 => ?_)
      · refine lv_iconst (v := iI 0) hx hb dX6_turn_30 rfl ?_
        refine px_RX6_32 (y := 0) hx hb hj hown hK hP hD hS hI q0 ⟨by omega, by omega⟩ dX6_turn_31 (fun v_17 H locs f_18 e_19 o_20 I_21 hP hD hS => ?_)
        refine lv_goto (tgt := 53) hx hb dX6_turn_34 (by decide) ?_
        rw [← hQ]
        exact W.vret hx hb hr (fun t ht hW => ⟨⟨v_17, rfl, ⟨I_21, (fr_tr f_18 rfl fr_rf)⟩, by rw [ht]; exact hP, va_K.moved hW.alike hK, hD⟩, hS.F ht⟩) hS.2.2 dX6_turn_53
      · refine lv_iconst (v := iI 1) hx hb dX6_turn_26 rfl ?_
        refine lv_goto (tgt := 31) hx hb dX6_turn_27 (by decide) ?_
        refine px_RX6_32 (y := 1) hx hb hj hown hK hP hD hS hI q0 ⟨by omega, by omega⟩ dX6_turn_31 (fun v_22 H locs f_23 e_24 o_25 I_26 hP hD hS => ?_)
        refine lv_goto (tgt := 53) hx hb dX6_turn_34 (by decide) ?_
        rw [← hQ]
        exact W.vret hx hb hr (fun t ht hW => ⟨⟨v_22, rfl, ⟨I_26, (fr_tr f_23 rfl fr_rf)⟩, by rw [ht]; exact hP, va_K.moved hW.alike hK, hD⟩, hS.F ht⟩) hS.2.2 dX6_turn_53
  · refine lv_aload_n hx hb dX6_turn_5 rfl (lv_at hl 0 rfl) ?_
    refine lv_iconst (v := iI 0) hx hb dX6_turn_6 rfl ?_
    refine px_RX6_20 (y := 0) hx hb hj hown hK hP hD hS hI q0 ⟨by omega, by omega⟩ dX6_turn_7 (fun v_27 H locs f_28 e_29 o_30 I_31 hP hD hS => ?_)
    refine lv_goto (tgt := 53) hx hb dX6_turn_10 (by decide) ?_
    rw [← hQ]
    exact W.vret hx hb hr (fun t ht hW => ⟨⟨v_27, rfl, ⟨I_31, (fr_tr f_28 rfl fr_rf)⟩, by rw [ht]; exact hP, va_K.moved hW.alike hK, hD⟩, hS.F ht⟩) hS.2.2 dX6_turn_53
set_option maxHeartbeats 2000000 in
set_option maxRecDepth 100000 in
theorem sX9_hasWord (l : Launch) (dC : Nat → ClassId) (dI : Nat → Nat → Nat) (sz : Nat) (L : List Nat) (cid : Nat → ClassId) (K : Int → Nat) (N : Int → Int) (tW : Nat) (sK sV : Nat → Nat) (v : Int → Int → Int) (p0 : Int) (p1 : Int) (hI : xI L K N v) (q0 : ok L K p0 9) : Met l yX9_hasWord (jk yX9_hasWord cX9_hasWord 4 (some .boolean)) ({ frames := 0, cells := 0, slots := 0, locals := 0 }) (va_Pc [.ref p0.toNat, .long (lL p1)] (xP (dC, dI) (xG L cid K N v) (xT cid) tW sK sV sz)) (va_Qi (fun (r : Int32) (_ : Unit) => ∃ z : Int, r = iI z ∧ (0 ≤ z ∧ z ≤ 1)) (fun _ _ => True) (va_A [] sz)) 0 0 (va_A [] sz) := by
  refine Met.ofW (cc := cX9_hasWord) (maxL := 4) (ret := (some .boolean)) (by decide) rfl ?_
  intro p e s m args below meth c s₁ B hml hv
  obtain ⟨rfl, ⟨hsz, hP, hK, hD0⟩, hX⟩ := hv
  have hx := B.exec
  have hb := B.bytes
  have hr := B.returns
  have hts := atoms_spec (ws := (jk yX9_hasWord cX9_hasWord 4 (some .boolean))) B.pre
  have hj : ∀ w ∈ jw, w.before ([.ref p0.toNat, .long (lL p1)] : List Value).toArray s = true := fun w h => hts w (jm h)
  have hown : s.vm.findClass RX9 = some m.cls := findClass_of_methodNamed B.named
  subst hsz
  have hDw := hD0.self (sz := s.heap.size)
  have hAA : ∀ q : Nat, s.heap.size ≤ q → va_A (xG L cid K N v) s.heap.size q := fun q h => Or.inr h
  have hAw : ∀ q, va_A [] s.heap.size q → va_A (xG L cid K N v) s.heap.size q := ja_nil va_S.rf hAA
  generalize hAe : (va_A [] s.heap.size) = A at hAw ⊢
  have hA : ∀ q : Nat, s.heap.size ≤ q → A q := fun q h => by rw [← hAe]; exact Or.inr h
  have hS : va_S A s.heap s.heap [] := va_S.rf
  have hXa := hX.nar hAw
  have hP : va_P (dC, dI) vwCl (xG L cid K N v) s.heap := hP
  have hl := lv_entry ([.ref p0.toNat, .long (lL p1)]) (n := 4) (Nat.le_of_ble_eq_true rfl)
  rw [lg_entry_eq]
  generalize (lg_sl ([.ref p0.toNat, .long (lL p1)]) ++ List.replicate (4 - (lg_sl ([.ref p0.toNat, .long (lL p1)])).length) Slot.unset).toArray = ls at hl ⊢
  have hl : lv_has ls 4 [(0, .ref p0.toNat), (1, .long (lL p1))] := hl
  generalize hQ : MQ below (va_Qi (fun (r : Int32) (_ : Unit) => ∃ z : Int, r = iI z ∧ (0 ≤ z ∧ z ≤ 1)) (fun _ _ => True) A) ([.ref p0.toNat, .long (lL p1)] : List Value).toArray s 0 0 A = Q
  suffices ST : ∀ (H : Heap) (locs : List Loc), va_P (dC, dI) vwCl (xG L cid K N v) H → va_S A s.heap H locs → W p l e ({ frames := 0, cells := 0, slots := 0, locals := 0 }) s m ([.ref p0.toNat, .long (lL p1)] : List Value).toArray below meth c H locs 0 0 Q (F0 m 0 ls []) from ST _ _ hP hS
  clear hP hS
  intro H locs hP hS
  refine lv_iconst (v := iI 0) hx hb dX9_hasWord_0 rfl ?_
  refine lv_istore_n (i := 3) (lv' := [(3, .int (iI 0)), (0, .ref p0.toNat), (1, .long (lL p1))]) hx hb dX9_hasWord_1 rfl hl (by decide) rfl (fun ls hl => ?_)
  have L2 : ∀ (n2 : Nat) (a3_2 : Int) (H : Heap) (locs : List Loc) (ls : Array Slot), (0 ≤ a3_2 ∧ a3_2 ≤ 4) → (0 < (n2 : Int) ∧ (N (v p0 3)) - a3_2 < (n2 : Int)) → va_P (dC, dI) vwCl (xG L cid K N v) H → va_S A s.heap H locs → lv_has ls 4 [(3, .int (iI a3_2)), (0, .ref p0.toNat), (1, .long (lL p1))] → W p l e ({ frames := 0, cells := 0, slots := 0, locals := 0 }) s m ([.ref p0.toNat, .long (lL p1)] : List Value).toArray below meth c H locs 0 0 Q (F0 m 2 ls []) := by
    intro n2
    induction n2 with
    | zero =>
      intro a3_2 H locs ls h_1 hm2 hP hS hl
      exfalso; omega
    | succ n2 ih2 =>
      intro a3_2 H locs ls h_2 hm2 hP hS hl
      refine lv_iload_n hx hb dX9_hasWord_2 rfl (lv_at hl 0 rfl) ?_
      refine lv_aload_n hx hb dX9_hasWord_3 rfl (lv_at hl 1 rfl) ?_
      have h_3 : ok L K (v p0 3) 69 := xf_9_3 hI q0
      have h_4 : 0 ≤ N (v p0 3) ∧ N (v p0 3) ≤ 4 := xn_69 hI h_3
      refine gx_RX9_15 (y := v p0 3) hx hb hj hown hK hP q0 ((xf_9_3 hI q0).1) rfl dX9_hasWord_4 ?_
      refine lx_69 (y := N (v p0 3)) hx hb hK hP h_3 rfl (by omega) dX9_hasWord_7 ?_
      refine xr_icmp_ge (tgt := 30) hx hb dX9_hasWord_8 (by decide) (by omega) (by omega) (fun h_5 => ?_) (fun h_5 => ?_)
      · refine lv_iconst (v := iI 0) hx hb dX9_hasWord_30 rfl ?_
        rw [← hQ]
        exact W.zret (v := iI 0) (ty := .boolean) hx hb hr (nb_bool (by omega) (by omega)) (fun t ht hW => ⟨⟨iI 0, (), rfl, ⟨0, rfl, by omega⟩, trivial⟩, hS.F ht⟩) hS.2.2 dX9_hasWord_31
      · refine lv_aload_n hx hb dX9_hasWord_11 rfl (lv_at hl 1 rfl) ?_
        refine gx_RX9_15 (y := v p0 3) hx hb hj hown hK hP q0 ((xf_9_3 hI q0).1) rfl dX9_hasWord_12 ?_
        refine lv_iload_n hx hb dX9_hasWord_15 rfl (lv_at hl 0 rfl) ?_
        refine ax_69 hx hb hK hP h_3 (by omega) (by omega) (by omega) dX9_hasWord_16 ?_
        refine lv_lload_n hx hb dX9_hasWord_17 rfl (lv_at hl 2 rfl) ?_
        refine W.lcmp hx hb dX9_hasWord_18 ?_
        refine xr_any (fun z_6 h_7 => ?_)
        refine xr_if_ne (tgt := 24) hx hb dX9_hasWord_19 (by decide) (by omega) (fun h_8 => ?_) (fun h_8 => ?_)
        · refine lv_iinc (v := iI (a3_2 + 1)) (lv' := [(3, .int (iI (a3_2 + 1))), (0, .ref p0.toNat), (1, .long (lL p1))]) hx hb dX9_hasWord_24 hl (k := 0) rfl (iI_add _ _) (by decide) rfl (fun ls hl => ?_)
          refine lv_goto (tgt := 2) hx hb dX9_hasWord_27 (by decide) ?_
          exact ih2 (a3_2 + 1) H locs ls (by omega) (by omega) hP hS hl
        · refine lv_iconst (v := iI 1) hx hb dX9_hasWord_22 rfl ?_
          rw [← hQ]
          exact W.zret (v := iI 1) (ty := .boolean) hx hb hr (nb_bool (by omega) (by omega)) (fun t ht hW => ⟨⟨iI 1, (), rfl, ⟨1, rfl, by omega⟩, trivial⟩, hS.F ht⟩) hS.2.2 dX9_hasWord_23
  exact L2 ((((N (v p0 3)) - 0 : Int)).toNat + 1) 0 H locs ls (by omega) (by omega) hP hS hl
set_option maxHeartbeats 2000000 in
set_option maxRecDepth 100000 in
theorem sX8_skips (l : Launch) (dC : Nat → ClassId) (dI : Nat → Nat → Nat) (sz : Nat) (L : List Nat) (cid : Nat → ClassId) (K : Int → Nat) (N : Int → Int) (tW : Nat) (sK sV : Nat → Nat) (v : Int → Int → Int) (p0 : Int) (p1 : Int) (p2 : Int) (p3 : Int) (hI : xI L K N v) (q0 : ok L K p0 8) (q2 : rg p2) (q3 : rg p3) : Met l yX8_skips (jk yX8_skips cX8_skips 7 (some .boolean)) ({ frames := 1, cells := 0, slots := 0, locals := 25 }) (va_Pc [.ref p0.toNat, .long (lL p1), .int (iI p2), .int (iI p3)] (xP (dC, dI) (xG L cid K N v) (xT cid) tW sK sV sz)) (va_Qi (fun (r : Int32) (_ : Unit) => ∃ z : Int, r = iI z ∧ (0 ≤ z ∧ z ≤ 1)) (fun _ _ => True) (va_A [] sz)) 0 0 (va_A [] sz) := by
  refine Met.ofW (cc := cX8_skips) (maxL := 7) (ret := (some .boolean)) (by decide) rfl ?_
  intro p e s m args below meth c s₁ B hml hv
  obtain ⟨rfl, ⟨hsz, hP, hK, hD0⟩, hX⟩ := hv
  have hx := B.exec
  have hb := B.bytes
  have hr := B.returns
  have hts := atoms_spec (ws := (jk yX8_skips cX8_skips 7 (some .boolean))) B.pre
  have hj : ∀ w ∈ jw, w.before ([.ref p0.toNat, .long (lL p1), .int (iI p2), .int (iI p3)] : List Value).toArray s = true := fun w h => hts w (jm h)
  have hown : s.vm.findClass RX8 = some m.cls := findClass_of_methodNamed B.named
  subst hsz
  have hDw := hD0.self (sz := s.heap.size)
  have hAA : ∀ q : Nat, s.heap.size ≤ q → va_A (xG L cid K N v) s.heap.size q := fun q h => Or.inr h
  have hAw : ∀ q, va_A [] s.heap.size q → va_A (xG L cid K N v) s.heap.size q := ja_nil va_S.rf hAA
  generalize hAe : (va_A [] s.heap.size) = A at hAw ⊢
  have hA : ∀ q : Nat, s.heap.size ≤ q → A q := fun q h => by rw [← hAe]; exact Or.inr h
  have hS : va_S A s.heap s.heap [] := va_S.rf
  have hXa := hX.nar hAw
  have hP : va_P (dC, dI) vwCl (xG L cid K N v) s.heap := hP
  have hl := lv_entry ([.ref p0.toNat, .long (lL p1), .int (iI p2), .int (iI p3)]) (n := 7) (Nat.le_of_ble_eq_true rfl)
  rw [lg_entry_eq]
  generalize (lg_sl ([.ref p0.toNat, .long (lL p1), .int (iI p2), .int (iI p3)]) ++ List.replicate (7 - (lg_sl ([.ref p0.toNat, .long (lL p1), .int (iI p2), .int (iI p3)])).length) Slot.unset).toArray = ls at hl ⊢
  have hl : lv_has ls 7 [(0, .ref p0.toNat), (1, .long (lL p1)), (3, .int (iI p2)), (4, .int (iI p3))] := hl
  generalize hQ : MQ below (va_Qi (fun (r : Int32) (_ : Unit) => ∃ z : Int, r = iI z ∧ (0 ≤ z ∧ z ≤ 1)) (fun _ _ => True) A) ([.ref p0.toNat, .long (lL p1), .int (iI p2), .int (iI p3)] : List Value).toArray s 0 0 A = Q
  suffices ST : ∀ (H : Heap) (locs : List Loc), va_P (dC, dI) vwCl (xG L cid K N v) H → va_S A s.heap H locs → W p l e ({ frames := 1, cells := 0, slots := 0, locals := 25 }) s m ([.ref p0.toNat, .long (lL p1), .int (iI p2), .int (iI p3)] : List Value).toArray below meth c H locs 0 0 Q (F0 m 0 ls []) from ST _ _ hP hS
  clear hP hS
  intro H locs hP hS
  refine lv_iconst (v := iI 0) hx hb dX8_skips_0 rfl ?_
  refine lv_istore (i := 5) (lv' := [(5, .int (iI 0)), (0, .ref p0.toNat), (1, .long (lL p1)), (3, .int (iI p2)), (4, .int (iI p3))]) hx hb dX8_skips_1 hl (by decide) rfl (fun ls hl => ?_)
  have L3 : ∀ (n3 : Nat) (a5_3 : Int) (H : Heap) (locs : List Loc) (ls : Array Slot), (0 ≤ a5_3 ∧ a5_3 ≤ 2147483647) → (0 < (n3 : Int) ∧ (v p0 5) - a5_3 < (n3 : Int)) → va_P (dC, dI) vwCl (xG L cid K N v) H → va_S A s.heap H locs → lv_has ls 7 [(5, .int (iI a5_3)), (0, .ref p0.toNat), (1, .long (lL p1)), (3, .int (iI p2)), (4, .int (iI p3))] → W p l e ({ frames := 1, cells := 0, slots := 0, locals := 25 }) s m ([.ref p0.toNat, .long (lL p1), .int (iI p2), .int (iI p3)] : List Value).toArray below meth c H locs 0 0 Q (F0 m 3 ls []) := by
    intro n3
    induction n3 with
    | zero =>
      intro a5_3 H locs ls h_1 hm3 hP hS hl
      exfalso; omega
    | succ n3 ih3 =>
      intro a5_3 H locs ls h_2 hm3 hP hS hl
      refine lv_iload hx hb dX8_skips_3 (lv_at hl 0 rfl) ?_
      refine lv_aload_n hx hb dX8_skips_5 rfl (lv_at hl 1 rfl) ?_
      have h_3 : 0 ≤ v p0 5 ∧ v p0 5 ≤ 20 := xf_8_5 hI q0
      refine gx_RX8_37 (y := v p0 5) hx hb hj hown hK hP q0 rfl dX8_skips_6 ?_
      refine xr_icmp_ge (tgt := 45) hx hb dX8_skips_9 (by decide) (by omega) (by omega) (fun h_4 => ?_) (fun h_4 => ?_)
      · refine lv_iconst (v := iI 0) hx hb dX8_skips_45 rfl ?_
        rw [← hQ]
        exact W.zret (v := iI 0) (ty := .boolean) hx hb hr (nb_bool (by omega) (by omega)) (fun t ht hW => ⟨⟨iI 0, (), rfl, ⟨0, rfl, by omega⟩, trivial⟩, hS.F ht⟩) hS.2.2 dX8_skips_46
      · refine lv_aload_n hx hb dX8_skips_12 rfl (lv_at hl 1 rfl) ?_
        refine lv_iload hx hb dX8_skips_13 (lv_at hl 0 rfl) ?_
        refine lv_iload_n hx hb dX8_skips_15 rfl (lv_at hl 3 rfl) ?_
        refine lv_iload hx hb dX8_skips_16 (lv_at hl 4 rfl) ?_
        refine jc_q (va_runV (As := [.int (iI a5_3), .int (iI p2), .int (iI p3)]) (rest := []) ⟨hx, hb, hml, hown, hts⟩ (sX8_sheetOfPut l dC dI _ L cid K N tW sK sV v p0 a5_3 p2 p3 hI q0 (by omega) (by omega) (by omega)) (cwV 3 hts (jgoodV m_925 m_926 m_927 m_928 m_929) rfl rfl rfl (by decide +kernel) ⟨(Nat.le_of_ble_eq_true rfl), (Nat.le_of_ble_eq_true rfl)⟩) ⟨xP_blind, xrecv hK hP q0 rfl rfl, fun U hU hW => ⟨rfl, xP_of hU hW hP hK hDw hX hS hAw hAA⟩⟩ rfl rfl hl.1 rfl (lv_room (Nat.le_of_ble_eq_true rfl)) dX8_skips_18 ⟨(Nat.le_of_ble_eq_true rfl), (Nat.le_of_ble_eq_true rfl)⟩) hP hS hA (fun r_5 H locs w_6 hP hS => ?_)
        obtain ⟨z_7, rfl, h_8⟩ := w_6
        refine jt_q (rv z_7) rfl ?_
        refine xq_astore (i := 6) (lv' := [(6, rv z_7), (5, .int (iI a5_3)), (0, .ref p0.toNat), (1, .long (lL p1)), (3, .int (iI p2)), (4, .int (iI p3))]) hx hb dX8_skips_21 hl (by decide) rfl (fun ls hl => ?_)
        refine xq_aload hx hb dX8_skips_23 (lv_at hl 0 rfl) ?_
        have J39 : ∀ (H : Heap) (locs : List Loc) (ls : Array Slot), va_P (dC, dI) vwCl (xG L cid K N v) H → va_S A s.heap H locs → lv_has ls 7 [(6, rv z_7), (5, .int (iI a5_3)), (0, .ref p0.toNat), (1, .long (lL p1)), (3, .int (iI p2)), (4, .int (iI p3))] → W p l e ({ frames := 1, cells := 0, slots := 0, locals := 25 }) s m ([.ref p0.toNat, .long (lL p1), .int (iI p2), .int (iI p3)] : List Value).toArray below meth c H locs 0 0 Q (F0 m 39 ls []) := by
          intro H locs ls hP hS hl
          refine lv_iinc (v := iI (a5_3 + 1)) (lv' := [(5, .int (iI (a5_3 + 1))), (6, rv z_7), (0, .ref p0.toNat), (1, .long (lL p1)), (3, .int (iI p2)), (4, .int (iI p3))]) hx hb dX8_skips_39 hl (k := 1) rfl (iI_add _ _) (by decide) rfl (fun ls hl => ?_)
          refine lv_goto (tgt := 3) hx hb dX8_skips_42 (by decide) ?_
          exact ih3 (a5_3 + 1) H locs ls (by omega) (by omega) hP hS (lv_sub hl [0, 2, 3, 4, 5] rfl)
        refine xq_ifnull (tgt := 39) hx hb dX8_skips_25 (by decide) (fun h_9 => ?_) (fun h_9 => ?_)
        · exact J39 H locs ls hP hS hl
        · have h_10 : ok L K z_7 9 := h_8.resolve_left (by omega)
          refine xq_aload hx hb dX8_skips_28 (lv_at hl 0 rfl) ?_
          refine jt_q (.ref z_7.toNat) (rv_ref (h_10).1) ?_
          refine lv_lload_n hx hb dX8_skips_30 rfl (lv_at hl 3 rfl) ?_
          refine jc_i (va_runV (As := [.long (lL p1)]) (rest := []) ⟨hx, hb, hml, hown, hts⟩ (sX9_hasWord l dC dI _ L cid K N tW sK sV v z_7 p1 hI h_10) (cwV 1 hts (jgoodV m_959 m_960 m_961 m_933 m_962) rfl rfl rfl (by decide +kernel) ⟨(Nat.le_of_ble_eq_true rfl), (Nat.le_of_ble_eq_true rfl)⟩) ⟨xP_blind, xrecv hK hP h_10 rfl rfl, fun U hU hW => ⟨rfl, xP_of hU hW hP hK hDw hX hS hAw hAA⟩⟩ rfl rfl hl.1 rfl (lv_room (Nat.le_of_ble_eq_true rfl)) dX8_skips_31 ⟨(Nat.le_of_ble_eq_true rfl), (Nat.le_of_ble_eq_true rfl)⟩) hP hS hA (fun r_11 H locs w_12 hP hS => ?_)
          obtain ⟨z_13, rfl, h_14⟩ := w_12
          refine xr_if_eq (tgt := 39) hx hb dX8_skips_34 (by decide) (by omega) (fun h_15 => ?_) (fun h_15 => ?_)
          · exact J39 H locs ls hP hS hl
          · refine lv_iconst (v := iI 1) hx hb dX8_skips_37 rfl ?_
            rw [← hQ]
            exact W.zret (v := iI 1) (ty := .boolean) hx hb hr (nb_bool (by omega) (by omega)) (fun t ht hW => ⟨⟨iI 1, (), rfl, ⟨1, rfl, by omega⟩, trivial⟩, hS.F ht⟩) hS.2.2 dX8_skips_38
  exact L3 ((((v p0 5) - 0 : Int)).toNat + 1) 0 H locs ls (by omega) (by omega) hP hS hl
set_option maxHeartbeats 2000000 in
set_option maxRecDepth 100000 in
theorem sX6_prepare (l : Launch) (dC : Nat → ClassId) (dI : Nat → Nat → Nat) (sz : Nat) (L : List Nat) (cid : Nat → ClassId) (K : Int → Nat) (N : Int → Int) (tW : Nat) (sK sV : Nat → Nat) (v : Int → Int → Int) (p0 : Int) (p1 : Int) (hI : xI L K N v) (q0 : ok L K p0 6) (q1 : ok L K p1 0) : Met l yX6_prepare (jk yX6_prepare cX6_prepare 3 none) ({ frames := 2, cells := 0, slots := 0, locals := 51 }) (va_Pc [.ref p0.toNat, .ref p1.toNat] (xP (dC, dI) (xG L cid K N v) (xT cid) tW sK sV sz)) (va_Qv (fun (u : (Int → Int → Int)) => (xI L K N u) ∧ (fr K [(0, 5)] u v)) (fun u t => va_P (dC, dI) vwCl (xG L cid K N u) t.heap ∧ va_K (dC, dI) vwCl (xT cid) t ∧ va_D (va_A (xG L cid K N v) sz) (xG L cid K N u)) (va_A (xG L cid K N v) sz)) 0 0 (va_A (xG L cid K N v) sz) := by
  refine Met.ofW (cc := cX6_prepare) (maxL := 3) (ret := none) (by decide) rfl ?_
  intro p e s m args below meth c s₁ B hml hv
  obtain ⟨rfl, ⟨hsz, hP, hK, hD0⟩, hX⟩ := hv
  have hx := B.exec
  have hb := B.bytes
  have hr := B.returns
  have hts := atoms_spec (ws := (jk yX6_prepare cX6_prepare 3 none)) B.pre
  have hj : ∀ w ∈ jw, w.before ([.ref p0.toNat, .ref p1.toNat] : List Value).toArray s = true := fun w h => hts w (jm h)
  have hown : s.vm.findClass RX6 = some m.cls := findClass_of_methodNamed B.named
  subst hsz
  have hD := hD0.self (sz := s.heap.size)
  generalize hAe : (va_A (xG L cid K N v) s.heap.size) = A at hD hX ⊢
  have hA : ∀ q : Nat, s.heap.size ≤ q → A q := fun q h => by rw [← hAe]; exact Or.inr h
  have hS : va_S A s.heap s.heap [] := va_S.rf
  have hXa := hX
  have hP : va_P (dC, dI) vwCl (xG L cid K N v) s.heap := hP
  have hl := lv_entry ([.ref p0.toNat, .ref p1.toNat]) (n := 3) (Nat.le_of_ble_eq_true rfl)
  rw [lg_entry_eq]
  generalize (lg_sl ([.ref p0.toNat, .ref p1.toNat]) ++ List.replicate (3 - (lg_sl ([.ref p0.toNat, .ref p1.toNat])).length) Slot.unset).toArray = ls at hl ⊢
  have hl : lv_has ls 3 [(0, .ref p0.toNat), (1, .ref p1.toNat)] := hl
  generalize hQ : MQ below (va_Qv (fun (u : (Int → Int → Int)) => (xI L K N u) ∧ (fr K [(0, 5)] u v)) (fun u t => va_P (dC, dI) vwCl (xG L cid K N u) t.heap ∧ va_K (dC, dI) vwCl (xT cid) t ∧ va_D A (xG L cid K N u)) A) ([.ref p0.toNat, .ref p1.toNat] : List Value).toArray s 0 0 A = Q
  suffices ST : ∀ (H : Heap) (locs : List Loc), va_P (dC, dI) vwCl (xG L cid K N v) H → va_S A s.heap H locs → W p l e ({ frames := 2, cells := 0, slots := 0, locals := 51 }) s m ([.ref p0.toNat, .ref p1.toNat] : List Value).toArray below meth c H locs 0 0 Q (F0 m 0 ls []) from ST _ _ hP hS
  clear hP hS
  intro H locs hP hS
  refine lv_aload_n hx hb dX6_prepare_0 rfl (lv_at hl 0 rfl) ?_
  have h_1 : 0 ≤ v p0 3 ∧ v p0 3 ≤ 1 := xf_6_3 hI q0
  refine gx_RX6_20 (y := v p0 3) hx hb hj hown hK hP q0 rfl dX6_prepare_1 ?_
  have J41 : ∀ (s0_41 : Int) (H : Heap) (locs : List Loc) (ls : Array Slot), (0 ≤ s0_41 ∧ s0_41 ≤ 1) → va_P (dC, dI) vwCl (xG L cid K N v) H → va_D A (xG L cid K N v) → va_S A s.heap H locs → lv_has ls 3 [(0, .ref p0.toNat), (1, .ref p1.toNat)] → W p l e ({ frames := 2, cells := 0, slots := 0, locals := 51 }) s m ([.ref p0.toNat, .ref p1.toNat] : List Value).toArray below meth c H locs 0 0 Q (F0 m 41 ls [.int (iI s0_41)]) := by
    intro s0_41 H locs ls h_2 hP hD hS hl
    refine lv_istore_n (i := 2) (lv' := [(2, .int (iI s0_41)), (0, .ref p0.toNat), (1, .ref p1.toNat)]) hx hb dX6_prepare_41 rfl hl (by decide) rfl (fun ls hl => ?_)
    refine lv_aload_n hx hb dX6_prepare_42 rfl (lv_at hl 2 rfl) ?_
    refine lv_iload_n hx hb dX6_prepare_43 rfl (lv_at hl 0 rfl) ?_
    refine xr_if_eq (tgt := 54) hx hb dX6_prepare_44 (by decide) (by omega) (fun h_3 => ?_) (fun h_3 => ?_)
    · refine lv_iconst (v := iI 0) hx hb dX6_prepare_54 rfl ?_
      refine px_RX6_50 (y := 0) hx hb hj hown hK hP hD hS hI q1 ⟨by omega, by omega⟩ dX6_prepare_55 (fun v_4 H locs f_5 e_6 o_7 I_8 hP hD hS => ?_)
      rw [← hQ]
      exact W.vret hx hb hr (fun t ht hW => ⟨⟨v_4, rfl, ⟨I_8, (fr_tr f_5 rfl fr_rf)⟩, by rw [ht]; exact hP, va_K.moved hW.alike hK, hD⟩, hS.F ht⟩) hS.2.2 dX6_prepare_58
    · refine lv_aload_n hx hb dX6_prepare_47 rfl (lv_at hl 2 rfl) ?_
      have h_9 : (-2147483648) ≤ v p1 4 ∧ v p1 4 ≤ 2147483647 := xf_0_4 hI q1
      refine gx_RX6_38 (y := v p1 4) hx hb hj hown hK hP q1 rfl dX6_prepare_48 ?_
      refine lv_goto (tgt := 55) hx hb dX6_prepare_51 (by decide) ?_
      refine px_RX6_50 (y := v p1 4) hx hb hj hown hK hP hD hS hI q1 ⟨by omega, by omega⟩ dX6_prepare_55 (fun v_10 H locs f_11 e_12 o_13 I_14 hP hD hS => ?_)
      rw [← hQ]
      exact W.vret hx hb hr (fun t ht hW => ⟨⟨v_10, rfl, ⟨I_14, (fr_tr f_11 rfl fr_rf)⟩, by rw [ht]; exact hP, va_K.moved hW.alike hK, hD⟩, hS.F ht⟩) hS.2.2 dX6_prepare_58
  have J40 : ∀ (H : Heap) (locs : List Loc) (ls : Array Slot), va_P (dC, dI) vwCl (xG L cid K N v) H → va_D A (xG L cid K N v) → va_S A s.heap H locs → lv_has ls 3 [(0, .ref p0.toNat), (1, .ref p1.toNat)] → W p l e ({ frames := 2, cells := 0, slots := 0, locals := 51 }) s m ([.ref p0.toNat, .ref p1.toNat] : List Value).toArray below meth c H locs 0 0 Q (F0 m 40 ls []) := by
    intro H locs ls hP hD hS hl
    refine lv_iconst (v := iI 0) hx hb dX6_prepare_40 rfl ?_
    exact J41 0 H locs ls (by omega) hP hD hS hl
  refine xr_if_eq (tgt := 40) hx hb dX6_prepare_4 (by decide) (by omega) (fun h_15 => ?_) (fun h_15 => ?_)
  · exact J40 H locs ls hP hD hS hl
  · refine lv_aload_n hx hb dX6_prepare_7 rfl (lv_at hl 1 rfl) ?_
    have h_16 : (-2147483648) ≤ v p1 4 ∧ v p1 4 ≤ 2147483647 := xf_0_4 hI q1
    refine gx_RX6_38 (y := v p1 4) hx hb hj hown hK hP q1 rfl dX6_prepare_8 ?_
    refine xr_if_le (tgt := 40) hx hb dX6_prepare_11 (by decide) (by omega) (fun h_17 => ?_) (fun h_17 => ?_)
    · exact J40 H locs ls hP hD hS hl
    · refine lv_aload_n hx hb dX6_prepare_14 rfl (lv_at hl 0 rfl) ?_
      have h_18 : ok L K (v p0 0) 8 := xf_6_0 hI q0
      refine gx_RX6_7 (y := v p0 0) hx hb hj hown hK hP q0 ((xf_6_0 hI q0).1) rfl dX6_prepare_15 ?_
      refine lv_aload_n hx hb dX6_prepare_18 rfl (lv_at hl 1 rfl) ?_
      refine gx_RX6_43 (y := v p1 3) hx hb hj hown hK hP q1 rfl dX6_prepare_19 ?_
      refine lv_aload_n hx hb dX6_prepare_22 rfl (lv_at hl 0 rfl) ?_
      have h_19 : (-2147483648) ≤ v p0 1 ∧ v p0 1 ≤ 2147483647 := xf_6_1 hI q0
      refine gx_RX6_13 (y := v p0 1) hx hb hj hown hK hP q0 rfl dX6_prepare_23 ?_
      refine lv_aload_n hx hb dX6_prepare_26 rfl (lv_at hl 0 rfl) ?_
      have h_20 : (-2147483648) ≤ v p0 2 ∧ v p0 2 ≤ 2147483647 := xf_6_2 hI q0
      refine gx_RX6_17 (y := v p0 2) hx hb hj hown hK hP q0 rfl dX6_prepare_27 ?_
      refine jc_i (va_runV (As := [.long (lL (v p1 3)), .int (iI (v p0 1)), .int (iI (v p0 2))]) (rest := []) ⟨hx, hb, hml, hown, hts⟩ (sX8_skips l dC dI _ L cid K N tW sK sV v (v p0 0) (v p1 3) (v p0 1) (v p0 2) hI h_18 (by omega) (by omega)) (cwV 3 hts (jgoodV m_963 m_964 m_965 m_928 m_966) rfl rfl rfl (by decide +kernel) ⟨(Nat.le_of_ble_eq_true rfl), (Nat.le_of_ble_eq_true rfl)⟩) ⟨xP_blind, xrecv hK hP h_18 rfl rfl, fun U hU hW => ⟨rfl, xP_of hU hW hP hK hD hX hS (fun _ h => h) hA⟩⟩ rfl rfl hl.1 rfl (lv_room (Nat.le_of_ble_eq_true rfl)) dX6_prepare_30 ⟨(Nat.le_of_ble_eq_true rfl), (Nat.le_of_ble_eq_true rfl)⟩) hP hS hA (fun r_21 H locs w_22 hP hS => ?_)
      obtain ⟨z_23, rfl, h_24⟩ := w_22
      refine xr_if_eq (tgt := 40) hx hb dX6_prepare_33 (by decide) (by omega) (fun h_25 => ?_) (fun h_25 => ?_)
      · exact J40 H locs ls hP hD hS hl
      · refine lv_iconst (v := iI 1) hx hb dX6_prepare_36 rfl ?_
        refine lv_goto (tgt := 41) hx hb dX6_prepare_37 (by decide) ?_
        exact J41 1 H locs ls (by omega) hP hD hS hl
set_option maxHeartbeats 2000000 in
set_option maxRecDepth 100000 in
theorem sX7_append (l : Launch) (dC : Nat → ClassId) (dI : Nat → Nat → Nat) (sz : Nat) (L : List Nat) (cid : Nat → ClassId) (K : Int → Nat) (N : Int → Int) (tW : Nat) (sK sV : Nat → Nat) (v : Int → Int → Int) (p0 : Int) (p1 : Int) (hI : xI L K N v) (q0 : ok L K p0 7) (q1 : rg p1) (k1 : v p0 1 ≤ 596) : Met l yX7_append (jk yX7_append cX7_append 3 none) ({ frames := 0, cells := 0, slots := 0, locals := 0 }) (va_Pc [.ref p0.toNat, .int (iI p1)] (xP (dC, dI) (xG L cid K N v) (xT cid) tW sK sV sz)) (va_Qv (fun (u : (Int → Int → Int)) => (xI L K N u) ∧ (fr K [(7, 1), (20, (-1))] u v) ∧ (u p0 1 = v p0 1 + 4) ∧ (xTT u p0 = ap4 (xTT v p0) (v p0 1) p1)) (fun u t => va_P (dC, dI) vwCl (xG L cid K N u) t.heap ∧ va_K (dC, dI) vwCl (xT cid) t ∧ va_D (va_A (xG L cid K N v) sz) (xG L cid K N u)) (va_A (xG L cid K N v) sz)) 0 0 (va_A (xG L cid K N v) sz) := by
  refine Met.ofW (cc := cX7_append) (maxL := 3) (ret := none) (by decide) rfl ?_
  intro p e s m args below meth c s₁ B hml hv
  obtain ⟨rfl, ⟨hsz, hP, hK, hD0⟩, hX⟩ := hv
  have hx := B.exec
  have hb := B.bytes
  have hr := B.returns
  have hts := atoms_spec (ws := (jk yX7_append cX7_append 3 none)) B.pre
  have hj : ∀ w ∈ jw, w.before ([.ref p0.toNat, .int (iI p1)] : List Value).toArray s = true := fun w h => hts w (jm h)
  have hown : s.vm.findClass RX7 = some m.cls := findClass_of_methodNamed B.named
  subst hsz
  have hD := hD0.self (sz := s.heap.size)
  generalize hAe : (va_A (xG L cid K N v) s.heap.size) = A at hD hX ⊢
  have hA : ∀ q : Nat, s.heap.size ≤ q → A q := fun q h => by rw [← hAe]; exact Or.inr h
  have hS : va_S A s.heap s.heap [] := va_S.rf
  have hXa := hX
  have hP : va_P (dC, dI) vwCl (xG L cid K N v) s.heap := hP
  have hl := lv_entry ([.ref p0.toNat, .int (iI p1)]) (n := 3) (Nat.le_of_ble_eq_true rfl)
  rw [lg_entry_eq]
  generalize (lg_sl ([.ref p0.toNat, .int (iI p1)]) ++ List.replicate (3 - (lg_sl ([.ref p0.toNat, .int (iI p1)])).length) Slot.unset).toArray = ls at hl ⊢
  have hl : lv_has ls 3 [(0, .ref p0.toNat), (1, .int (iI p1))] := hl
  generalize hQ : MQ below (va_Qv (fun (u : (Int → Int → Int)) => (xI L K N u) ∧ (fr K [(7, 1), (20, (-1))] u v) ∧ (u p0 1 = v p0 1 + 4) ∧ (xTT u p0 = ap4 (xTT v p0) (v p0 1) p1)) (fun u t => va_P (dC, dI) vwCl (xG L cid K N u) t.heap ∧ va_K (dC, dI) vwCl (xT cid) t ∧ va_D A (xG L cid K N u)) A) ([.ref p0.toNat, .int (iI p1)] : List Value).toArray s 0 0 A = Q
  suffices ST : ∀ (H : Heap) (locs : List Loc), va_P (dC, dI) vwCl (xG L cid K N v) H → va_S A s.heap H locs → W p l e ({ frames := 0, cells := 0, slots := 0, locals := 0 }) s m ([.ref p0.toNat, .int (iI p1)] : List Value).toArray below meth c H locs 0 0 Q (F0 m 0 ls []) from ST _ _ hP hS
  clear hP hS
  intro H locs hP hS
  have h_1 : ok L K (v p0 0) 20 := xf_7_0 hI q0
  have h_2 : N (v p0 0) = 600 := xn_20 hI h_1
  have t1 := xf_7_1 hI q0
  refine lv_bipush (v := iI 24) hx hb dX7_append_0 rfl ?_
  refine lv_istore_n (i := 2) (lv' := [(2, .int (iI 24)), (0, .ref p0.toNat), (1, .int (iI p1))]) hx hb dX7_append_2 rfl hl (by decide) rfl (fun ls hl => ?_)
  have L3 : ∀ (n3 : Nat) (a2_3 : Int) (vc3 : Int → Int → Int) (H : Heap) (locs : List Loc) (ls : Array Slot), ((-8) ≤ a2_3 ∧ a2_3 ≤ 24) → (8 * (vc3 p0 1 - v p0 1) = 24 - a2_3) → ((-8) ≤ a2_3 ∧ a2_3 ≤ 24) → (v p0 1 ≤ vc3 p0 1) → (apI p1 (v p0 1) (vc3 p0 1) (vc3 (v p0 0)) (v (v p0 0))) → (0 < (n3 : Int) ∧ a2_3 + 1 < (n3 : Int)) → fr K [(7, 1), (20, (-1))] vc3 v → xI L K N vc3 → va_P (dC, dI) vwCl (xG L cid K N vc3) H → va_D A (xG L cid K N vc3) → va_S A s.heap H locs → lv_has ls 3 [(2, .int (iI a2_3)), (0, .ref p0.toNat), (1, .int (iI p1))] → W p l e ({ frames := 0, cells := 0, slots := 0, locals := 0 }) s m ([.ref p0.toNat, .int (iI p1)] : List Value).toArray below meth c H locs 0 0 Q (F0 m 3 ls []) := by
    intro n3
    induction n3 with
    | zero =>
      intro a2_3 vc3 H locs ls h_3 h_4 h_5 h_6 h_7 hm3 f_8 I_9 hP hD hS hl
      exfalso; omega
    | succ n3 ih3 =>
      intro a2_3 vc3 H locs ls h_10 h_11 h_12 h_13 h_14 hm3 f_15 I_16 hP hD hS hl
      refine lv_iload_n hx hb dX7_append_3 rfl (lv_at hl 0 rfl) ?_
      refine xr_if_lt (tgt := 53) hx hb dX7_append_4 (by decide) (by omega) (fun h_17 => ?_) (fun h_17 => ?_)
      · have h_18 : 0 ≤ v p0 1 ∧ v p0 1 ≤ 600 := xf_7_1 hI q0
        have h_19 : 0 ≤ vc3 p0 1 ∧ vc3 p0 1 ≤ 600 := xf_7_1 I_16 q0
        rw [← hQ]
        exact W.vret hx hb hr (fun t ht hW => ⟨⟨vc3, rfl, ⟨I_16, (fr_tr f_15 rfl fr_rf), by omega, by exact apI_e (A := v p0 0) (k := vc3 p0 1) (show apI p1 (v p0 1) (vc3 p0 1) (vc3 (v p0 0)) (v (v p0 0)) by assumption) (show vc3 p0 0 = v p0 0 from (fr_use q0 f_15 rfl)) rfl rfl rfl (by omega) (by omega)⟩, by rw [ht]; exact hP, va_K.moved hW.alike hK, hD⟩, hS.F ht⟩) hS.2.2 dX7_append_53
      · refine lv_aload_n hx hb dX7_append_7 rfl (lv_at hl 1 rfl) ?_
        have h_20 : 0 ≤ vc3 p0 1 ∧ vc3 p0 1 ≤ 600 := xf_7_1 I_16 q0
        refine gx_RX7_43 (y := vc3 p0 1) hx hb hj hown hK hP q0 rfl dX7_append_8 ?_
        refine xr_if_lt (tgt := 47) hx hb dX7_append_11 (by decide) (by omega) (fun h_21 => ?_) (fun h_21 => ?_)
        · exfalso; omega
        · refine lv_aload_n hx hb dX7_append_14 rfl (lv_at hl 1 rfl) ?_
          refine gx_RX7_43 (y := vc3 p0 1) hx hb hj hown hK hP q0 rfl dX7_append_15 ?_
          refine lv_sipush (v := iI 600) hx hb dX7_append_18 rfl ?_
          have J47 : ∀ (vc47 : Int → Int → Int) (H : Heap) (locs : List Loc) (ls : Array Slot), (8 * (vc47 p0 1 - v p0 1) = 32 - a2_3) → (v p0 1 ≤ vc47 p0 1) → (apI p1 (v p0 1) (vc47 p0 1) (vc47 (v p0 0)) (v (v p0 0))) → fr K [(7, 1), (20, (-1))] vc47 vc3 → xI L K N vc47 → va_P (dC, dI) vwCl (xG L cid K N vc47) H → va_D A (xG L cid K N vc47) → va_S A s.heap H locs → lv_has ls 3 [(2, .int (iI a2_3)), (0, .ref p0.toNat), (1, .int (iI p1))] → W p l e ({ frames := 0, cells := 0, slots := 0, locals := 0 }) s m ([.ref p0.toNat, .int (iI p1)] : List Value).toArray below meth c H locs 0 0 Q (F0 m 47 ls []) := by
            intro vc47 H locs ls h_22 h_23 h_24 f_25 I_26 hP hD hS hl
            refine lv_iinc (v := iI (a2_3 + (-8))) (lv' := [(2, .int (iI (a2_3 + (-8)))), (0, .ref p0.toNat), (1, .int (iI p1))]) hx hb dX7_append_47 hl (k := 0) rfl (iI_add _ _) (by decide) rfl (fun ls hl => ?_)
            refine lv_goto (tgt := 3) hx hb dX7_append_50 (by decide) ?_
            exact ih3 (a2_3 + (-8)) vc47 H locs ls (by omega) (by omega) (by omega) (by omega) (by first | exact apI_0 | assumption) (by omega) (fr_tr f_25 rfl (fr_tr f_15 rfl fr_rf)) I_26 hP hD hS hl
          refine xr_icmp_ge (tgt := 47) hx hb dX7_append_21 (by decide) (by omega) (by omega) (fun h_27 => ?_) (fun h_27 => ?_)
          · exact J47 vc3 H locs ls (by omega) (by omega) (by first | exact ap9 | (exfalso; omega)) fr_rf I_16 hP hD hS hl
          · refine lv_aload_n hx hb dX7_append_24 rfl (lv_at hl 1 rfl) ?_
            refine gx_RX7_11 (y := v p0 0) hx hb hj hown hK hP q0 ((xf_7_0 I_16 q0).1) (fr_use q0 f_15 rfl) dX7_append_25 ?_
            refine lv_aload_n hx hb dX7_append_28 rfl (lv_at hl 1 rfl) ?_
            refine gx_RX7_43 (y := vc3 p0 1) hx hb hj hown hK hP q0 rfl dX7_append_29 ?_
            refine lv_iload_n hx hb dX7_append_32 rfl (lv_at hl 2 rfl) ?_
            refine lv_iload_n hx hb dX7_append_33 rfl (lv_at hl 0 rfl) ?_
            refine lv_iushr hx hb dX7_append_34 rfl ?_
            refine jt_i (iI (zushr p1 a2_3)) (iI_of _) ?_
            have h_28 : rg (zushr p1 a2_3) := rg_of _
            refine lv_i2b hx hb dX7_append_35 rfl ?_
            refine jt_i (iI (zi8 (zushr p1 a2_3))) (by unfold zi8; rw [vp_nar_byte]; exact iI_of _) ?_
            have h_29 : (-128) ≤ zi8 (zushr p1 a2_3) ∧ zi8 (zushr p1 a2_3) ≤ 127 := zi8_b (zushr p1 a2_3)
            refine sxE_20 (y := zi8 (zushr p1 a2_3)) hx hb hK hP hD hS I_16 h_1 (by omega) (by omega) (by omega) ⟨by omega, by omega⟩ dX7_append_36 (fun v_30 H locs f_31 e_32 o_33 I_34 hP hD hS => ?_)
            refine lv_aload_n hx hb dX7_append_37 rfl (lv_at hl 1 rfl) ?_
            refine lv_dup hx hb dX7_append_38 rfl ?_
            refine gx_RX7_43 (y := vc3 p0 1) hx hb hj hown hK hP q0 (fr_use q0 f_31 rfl) dX7_append_39 ?_
            refine lv_iconst (v := iI 1) hx hb dX7_append_42 rfl ?_
            refine xr_add hx hb dX7_append_43 ?_
            refine px_RX7_43 (y := (vc3 p0 1) + 1) hx hb hj hown hK hP hD hS I_34 q0 ⟨by omega, by omega⟩ dX7_append_44 (fun v_35 H locs f_36 e_37 o_38 I_39 hP hD hS => ?_)
            have hA9 : ∀ i, v_35 (v p0 0) i = if i = vc3 p0 1 then zi8 (zushr p1 a2_3) else vc3 (v p0 0) i := fun i => by
              rw [fr_use (j := i) h_1 f_36 rfl, vu_of e_32 o_33]
              by_cases c : i = vc3 p0 1
              · rw [if_pos c, c, vu_self]
              · rw [if_neg c, vu_ne _ (fun d => c d.2)]
            have ap9 : apI p1 (v p0 1) (v_35 p0 1) (v_35 (v p0 0)) (v (v p0 0)) := apI_s (show apI p1 (v p0 1) (vc3 p0 1) (vc3 (v p0 0)) (v (v p0 0)) by assumption) (by omega) (by omega) hA9 rfl (by omega) (by omega)
            have b_40 : v_35 p0 1 = (vc3 p0 1) + 1 := e_37
            exact J47 v_35 H locs ls (by omega) (by omega) (by first | exact ap9 | (exfalso; omega)) (fr_tr f_36 rfl (fr_tr f_31 rfl fr_rf)) I_39 hP hD hS hl
  exact L3 (((24 + 1 : Int)).toNat + 1) 24 v H locs ls (by omega) (by omega) (by omega) (by omega) (by first | exact apI_0 | assumption) (by omega) fr_rf hI hP hD hS hl
set_option maxHeartbeats 2000000 in
set_option maxRecDepth 100000 in
theorem sX8_hasRoomForSheet (l : Launch) (dC : Nat → ClassId) (dI : Nat → Nat → Nat) (sz : Nat) (L : List Nat) (cid : Nat → ClassId) (K : Int → Nat) (N : Int → Int) (tW : Nat) (sK sV : Nat → Nat) (v : Int → Int → Int) (p0 : Int) (hI : xI L K N v) (q0 : ok L K p0 8) : Met l yX8_hasRoomForSheet (jk yX8_hasRoomForSheet cX8_hasRoomForSheet 1 (some .boolean)) ({ frames := 0, cells := 0, slots := 0, locals := 0 }) (va_Pc [.ref p0.toNat] (xP (dC, dI) (xG L cid K N v) (xT cid) tW sK sV sz)) (va_Qi (fun (r : Int32) (_ : Unit) => ∃ z : Int, r = iI z ∧ (0 ≤ z ∧ z ≤ 1) ∧ ((z = 1 ∧ v p0 1 < 12) ∨ (z = 0 ∧ 12 ≤ v p0 1))) (fun _ _ => True) (va_A [] sz)) 0 0 (va_A [] sz) := by
  refine Met.ofW (cc := cX8_hasRoomForSheet) (maxL := 1) (ret := (some .boolean)) (by decide) rfl ?_
  intro p e s m args below meth c s₁ B hml hv
  obtain ⟨rfl, ⟨hsz, hP, hK, hD0⟩, hX⟩ := hv
  have hx := B.exec
  have hb := B.bytes
  have hr := B.returns
  have hts := atoms_spec (ws := (jk yX8_hasRoomForSheet cX8_hasRoomForSheet 1 (some .boolean))) B.pre
  have hj : ∀ w ∈ jw, w.before ([.ref p0.toNat] : List Value).toArray s = true := fun w h => hts w (jm h)
  have hown : s.vm.findClass RX8 = some m.cls := findClass_of_methodNamed B.named
  subst hsz
  have hDw := hD0.self (sz := s.heap.size)
  have hAA : ∀ q : Nat, s.heap.size ≤ q → va_A (xG L cid K N v) s.heap.size q := fun q h => Or.inr h
  have hAw : ∀ q, va_A [] s.heap.size q → va_A (xG L cid K N v) s.heap.size q := ja_nil va_S.rf hAA
  generalize hAe : (va_A [] s.heap.size) = A at hAw ⊢
  have hA : ∀ q : Nat, s.heap.size ≤ q → A q := fun q h => by rw [← hAe]; exact Or.inr h
  have hS : va_S A s.heap s.heap [] := va_S.rf
  have hXa := hX.nar hAw
  have hP : va_P (dC, dI) vwCl (xG L cid K N v) s.heap := hP
  have hl := lv_entry ([.ref p0.toNat]) (n := 1) (Nat.le_of_ble_eq_true rfl)
  rw [lg_entry_eq]
  generalize (lg_sl ([.ref p0.toNat]) ++ List.replicate (1 - (lg_sl ([.ref p0.toNat])).length) Slot.unset).toArray = ls at hl ⊢
  have hl : lv_has ls 1 [(0, .ref p0.toNat)] := hl
  generalize hQ : MQ below (va_Qi (fun (r : Int32) (_ : Unit) => ∃ z : Int, r = iI z ∧ (0 ≤ z ∧ z ≤ 1) ∧ ((z = 1 ∧ v p0 1 < 12) ∨ (z = 0 ∧ 12 ≤ v p0 1))) (fun _ _ => True) A) ([.ref p0.toNat] : List Value).toArray s 0 0 A = Q
  suffices ST : ∀ (H : Heap) (locs : List Loc), va_P (dC, dI) vwCl (xG L cid K N v) H → va_S A s.heap H locs → W p l e ({ frames := 0, cells := 0, slots := 0, locals := 0 }) s m ([.ref p0.toNat] : List Value).toArray below meth c H locs 0 0 Q (F0 m 0 ls []) from ST _ _ hP hS
  clear hP hS
  intro H locs hP hS
  refine lv_aload_n hx hb dX8_hasRoomForSheet_0 rfl (lv_at hl 0 rfl) ?_
  have h_1 : 0 ≤ v p0 1 ∧ v p0 1 ≤ 12 := xf_8_1 hI q0
  refine gx_RX8_33 (y := v p0 1) hx hb hj hown hK hP q0 rfl dX8_hasRoomForSheet_1 ?_
  refine lv_bipush (v := iI 12) hx hb dX8_hasRoomForSheet_4 rfl ?_
  refine xr_icmp_ge (tgt := 13) hx hb dX8_hasRoomForSheet_6 (by decide) (by omega) (by omega) (fun h_2 => ?_) (fun h_2 => ?_)
  · refine lv_iconst (v := iI 0) hx hb dX8_hasRoomForSheet_13 rfl ?_
    rw [← hQ]
    exact W.zret (v := iI 0) (ty := .boolean) hx hb hr (nb_bool (by omega) (by omega)) (fun t ht hW => ⟨⟨iI 0, (), rfl, ⟨0, rfl, by omega, by omega⟩, trivial⟩, hS.F ht⟩) hS.2.2 dX8_hasRoomForSheet_14
  · refine lv_iconst (v := iI 1) hx hb dX8_hasRoomForSheet_9 rfl ?_
    refine lv_goto (tgt := 14) hx hb dX8_hasRoomForSheet_10 (by decide) ?_
    rw [← hQ]
    exact W.zret (v := iI 1) (ty := .boolean) hx hb hr (nb_bool (by omega) (by omega)) (fun t ht hW => ⟨⟨iI 1, (), rfl, ⟨1, rfl, by omega, by omega⟩, trivial⟩, hS.F ht⟩) hS.2.2 dX8_hasRoomForSheet_14
