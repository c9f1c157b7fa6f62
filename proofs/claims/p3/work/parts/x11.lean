set_option maxHeartbeats 2000000 in
set_option maxRecDepth 100000 in
theorem sX0_byteAt (l : Launch) (dC : Nat → ClassId) (dI : Nat → Nat → Nat) (sz : Nat) (L : List Nat) (cid : Nat → ClassId) (K : Int → Nat) (N : Int → Int) (tW : Nat) (sK sV : Nat → Nat) (v : Int → Int → Int) (p0 : Int) (p1 : Int) (hI : xI L K N v) (q0 : ok L K p0 0) (q1 : rg p1) : Met l yX0_byteAt (jk yX0_byteAt cX0_byteAt 2 (some .int)) ({ frames := 0, cells := 0, slots := 0, locals := 0 }) (va_Pc [.ref p0.toNat, .int (iI p1)] (xP (dC, dI) (xG L cid K N v) (xT cid) tW sK sV sz)) (va_Qi (fun (r : Int32) (_ : Unit) => ∃ z : Int, r = iI z ∧ (rg z)) (fun _ _ => True) (va_A [] sz)) 0 0 (va_A [] sz) := by
  refine Met.ofW (cc := cX0_byteAt) (maxL := 2) (ret := (some .int)) (by decide) rfl ?_
  intro p e s m args below meth c s₁ B hml hv
  obtain ⟨rfl, ⟨hsz, hP, hK, hD0⟩, hX⟩ := hv
  have hx := B.exec
  have hb := B.bytes
  have hr := B.returns
  have hts := atoms_spec (ws := (jk yX0_byteAt cX0_byteAt 2 (some .int))) B.pre
  have hj : ∀ w ∈ jw, w.before ([.ref p0.toNat, .int (iI p1)] : List Value).toArray s = true := fun w h => hts w (jm h)
  have hown : s.vm.findClass RX0 = some m.cls := findClass_of_methodNamed B.named
  subst hsz
  have hDw := hD0.self (sz := s.heap.size)
  have hAA : ∀ q : Nat, s.heap.size ≤ q → va_A (xG L cid K N v) s.heap.size q := fun q h => Or.inr h
  have hAw : ∀ q, va_A [] s.heap.size q → va_A (xG L cid K N v) s.heap.size q := ja_nil va_S.rf hAA
  generalize hAe : (va_A [] s.heap.size) = A at hAw ⊢
  have hA : ∀ q : Nat, s.heap.size ≤ q → A q := fun q h => by rw [← hAe]; exact Or.inr h
  have hS : va_S A s.heap s.heap [] := va_S.rf
  have hXa := hX.nar hAw
  have hP : va_P (dC, dI) vwCl (xG L cid K N v) s.heap := hP
  have hl := lv_entry ([.ref p0.toNat, .int (iI p1)]) (n := 2) (Nat.le_of_ble_eq_true rfl)
  rw [lg_entry_eq]
  generalize (lg_sl ([.ref p0.toNat, .int (iI p1)]) ++ List.replicate (2 - (lg_sl ([.ref p0.toNat, .int (iI p1)])).length) Slot.unset).toArray = ls at hl ⊢
  have hl : lv_has ls 2 [(0, .ref p0.toNat), (1, .int (iI p1))] := hl
  generalize hQ : MQ below (va_Qi (fun (r : Int32) (_ : Unit) => ∃ z : Int, r = iI z ∧ (rg z)) (fun _ _ => True) A) ([.ref p0.toNat, .int (iI p1)] : List Value).toArray s 0 0 A = Q
  suffices ST : ∀ (H : Heap) (locs : List Loc), va_P (dC, dI) vwCl (xG L cid K N v) H → va_S A s.heap H locs → W p l e ({ frames := 0, cells := 0, slots := 0, locals := 0 }) s m ([.ref p0.toNat, .int (iI p1)] : List Value).toArray below meth c H locs 0 0 Q (F0 m 0 ls []) from ST _ _ hP hS
  clear hP hS
  intro H locs hP hS
  refine lv_iload_n hx hb dX0_byteAt_0 rfl (lv_at hl 1 rfl) ?_
  refine xr_if_lt (tgt := 22) hx hb dX0_byteAt_1 (by decide) (by omega) (fun h_1 => ?_) (fun h_1 => ?_)
  · refine lv_iconst (v := iI 0) hx hb dX0_byteAt_22 rfl ?_
    rw [← hQ]
    exact W.iret (v := iI 0) hx hb hr (fun t ht hW => ⟨⟨iI 0, (), rfl, ⟨0, rfl, by omega⟩, trivial⟩, hS.F ht⟩) hS.2.2 dX0_byteAt_23
  · refine lv_iload_n hx hb dX0_byteAt_4 rfl (lv_at hl 1 rfl) ?_
    refine lv_aload_n hx hb dX0_byteAt_5 rfl (lv_at hl 0 rfl) ?_
    have h_2 : ok L K (v p0 2) 65 := xf_0_2 hI q0
    have h_3 : 0 ≤ N (v p0 2) ∧ N (v p0 2) ≤ 12 := xn_65 hI h_2
    refine gx_RX0_36 (y := v p0 2) hx hb hj hown hK hP q0 ((xf_0_2 hI q0).1) rfl dX0_byteAt_6 ?_
    refine lx_65 (y := N (v p0 2)) hx hb hK hP h_2 rfl (by omega) dX0_byteAt_9 ?_
    refine xr_icmp_ge (tgt := 22) hx hb dX0_byteAt_10 (by decide) (by omega) (by omega) (fun h_4 => ?_) (fun h_4 => ?_)
    · refine lv_iconst (v := iI 0) hx hb dX0_byteAt_22 rfl ?_
      rw [← hQ]
      exact W.iret (v := iI 0) hx hb hr (fun t ht hW => ⟨⟨iI 0, (), rfl, ⟨0, rfl, by omega⟩, trivial⟩, hS.F ht⟩) hS.2.2 dX0_byteAt_23
    · refine lv_aload_n hx hb dX0_byteAt_13 rfl (lv_at hl 0 rfl) ?_
      refine gx_RX0_36 (y := v p0 2) hx hb hj hown hK hP q0 ((xf_0_2 hI q0).1) rfl dX0_byteAt_14 ?_
      refine lv_iload_n hx hb dX0_byteAt_17 rfl (lv_at hl 1 rfl) ?_
      have h_5 : (-128) ≤ v (v p0 2) p1 ∧ v (v p0 2) p1 ≤ 127 := xe_65 hI h_2 (by omega)
      refine ax_65 (y := v (v p0 2) p1) hx hb hK hP h_2 (by omega) (by omega) (by omega) rfl dX0_byteAt_18 ?_
      refine lv_goto (tgt := 23) hx hb dX0_byteAt_19 (by decide) ?_
      rw [← hQ]
      exact W.iret (v := iI (v (v p0 2) p1)) hx hb hr (fun t ht hW => ⟨⟨iI (v (v p0 2) p1), (), rfl, ⟨v (v p0 2) p1, rfl, by omega⟩, trivial⟩, hS.F ht⟩) hS.2.2 dX0_byteAt_23
set_option maxHeartbeats 2000000 in
set_option maxRecDepth 100000 in
theorem sX0_isDone (l : Launch) (dC : Nat → ClassId) (dI : Nat → Nat → Nat) (sz : Nat) (L : List Nat) (cid : Nat → ClassId) (K : Int → Nat) (N : Int → Int) (tW : Nat) (sK sV : Nat → Nat) (v : Int → Int → Int) (p0 : Int) (hI : xI L K N v) (q0 : ok L K p0 0) : Met l yX0_isDone (jk yX0_isDone cX0_isDone 1 (some .boolean)) ({ frames := 0, cells := 0, slots := 0, locals := 0 }) (va_Pc [.ref p0.toNat] (xP (dC, dI) (xG L cid K N v) (xT cid) tW sK sV sz)) (va_Qi (fun (r : Int32) (_ : Unit) => ∃ z : Int, r = iI z ∧ (0 ≤ z ∧ z ≤ 1) ∧ (z = 1 ∨ v p0 15 < v p0 9)) (fun _ _ => True) (va_A [] sz)) 0 0 (va_A [] sz) := by
  refine Met.ofW (cc := cX0_isDone) (maxL := 1) (ret := (some .boolean)) (by decide) rfl ?_
  intro p e s m args below meth c s₁ B hml hv
  obtain ⟨rfl, ⟨hsz, hP, hK, hD0⟩, hX⟩ := hv
  have hx := B.exec
  have hb := B.bytes
  have hr := B.returns
  have hts := atoms_spec (ws := (jk yX0_isDone cX0_isDone 1 (some .boolean))) B.pre
  have hj : ∀ w ∈ jw, w.before ([.ref p0.toNat] : List Value).toArray s = true := fun w h => hts w (jm h)
  have hown : s.vm.findClass RX0 = some m.cls := findClass_of_methodNamed B.named
  subst hsz
  have hDw := hD0.self (sz := s.heap.size)
  have hAA : ∀ q : Nat, s.heap.size ≤ q → va_A (xG L cid K N v) s.heap.size q := fun q h => Or.inr h
  have hAw : ∀ q, va_A [] s.heap.size q → va_A (xG L cid K N v) s.heap.size q := ja_nil va_S.rf hAA
  generalize hAe : (va_A [] s.heap.size) = A at hAw ⊢
  have hA : ∀ q : Nat, s.heap.size ≤ q → A q := fun q h => by rw [← hAe]; exact Or.inr h
  have hS : va_S A s.heap s.heap [] := va_S.rf
  have hXa := hX.nar hAw
  have hP : va_P (dC, dI) vwCl (xG L cid K N v) s.heap := hP
  have hl := lv_entry ([.ref p0.toNat]) (n := 1) (Nat.le_of_ble_eq_true rfl)
  rw [lg_entry_eq]
  generalize (lg_sl ([.ref p0.toNat]) ++ List.replicate (1 - (lg_sl ([.ref p0.toNat])).length) Slot.unset).toArray = ls at hl ⊢
  have hl : lv_has ls 1 [(0, .ref p0.toNat)] := hl
  generalize hQ : MQ below (va_Qi (fun (r : Int32) (_ : Unit) => ∃ z : Int, r = iI z ∧ (0 ≤ z ∧ z ≤ 1) ∧ (z = 1 ∨ v p0 15 < v p0 9)) (fun _ _ => True) A) ([.ref p0.toNat] : List Value).toArray s 0 0 A = Q
  suffices ST : ∀ (H : Heap) (locs : List Loc), va_P (dC, dI) vwCl (xG L cid K N v) H → va_S A s.heap H locs → W p l e ({ frames := 0, cells := 0, slots := 0, locals := 0 }) s m ([.ref p0.toNat] : List Value).toArray below meth c H locs 0 0 Q (F0 m 0 ls []) from ST _ _ hP hS
  clear hP hS
  intro H locs hP hS
  refine lv_aload_n hx hb dX0_isDone_0 rfl (lv_at hl 0 rfl) ?_
  have h_1 : 0 ≤ v p0 15 ∧ v p0 15 ≤ 200 := xf_0_15 hI q0
  refine gx_RX0_60 (y := v p0 15) hx hb hj hown hK hP q0 rfl dX0_isDone_1 ?_
  refine lv_aload_n hx hb dX0_isDone_4 rfl (lv_at hl 0 rfl) ?_
  have h_2 : 0 ≤ v p0 9 ∧ v p0 9 ≤ 200 := xf_0_9 hI q0
  refine gx_RX0_63 (y := v p0 9) hx hb hj hown hK hP q0 rfl dX0_isDone_5 ?_
  refine xr_icmp_lt (tgt := 15) hx hb dX0_isDone_8 (by decide) (by omega) (by omega) (fun h_3 => ?_) (fun h_3 => ?_)
  · refine lv_iconst (v := iI 0) hx hb dX0_isDone_15 rfl ?_
    rw [← hQ]
    exact W.zret (v := iI 0) (ty := .boolean) hx hb hr (nb_bool (by omega) (by omega)) (fun t ht hW => ⟨⟨iI 0, (), rfl, ⟨0, rfl, by omega, by omega⟩, trivial⟩, hS.F ht⟩) hS.2.2 dX0_isDone_16
  · refine lv_iconst (v := iI 1) hx hb dX0_isDone_11 rfl ?_
    refine lv_goto (tgt := 16) hx hb dX0_isDone_12 (by decide) ?_
    rw [← hQ]
    exact W.zret (v := iI 1) (ty := .boolean) hx hb hr (nb_bool (by omega) (by omega)) (fun t ht hW => ⟨⟨iI 1, (), rfl, ⟨1, rfl, by omega, by omega⟩, trivial⟩, hS.F ht⟩) hS.2.2 dX0_isDone_16
set_option maxHeartbeats 2000000 in
set_option maxRecDepth 100000 in
theorem sX0_isUnfinishedOf (l : Launch) (dC : Nat → ClassId) (dI : Nat → Nat → Nat) (sz : Nat) (L : List Nat) (cid : Nat → ClassId) (K : Int → Nat) (N : Int → Int) (tW : Nat) (sK sV : Nat → Nat) (v : Int → Int → Int) (p0 : Int) (p1 : Int) (hI : xI L K N v) (q0 : ok L K p0 0) (q1 : rg p1) : Met l yX0_isUnfinishedOf (jk yX0_isUnfinishedOf cX0_isUnfinishedOf 2 (some .boolean)) ({ frames := 0, cells := 0, slots := 0, locals := 0 }) (va_Pc [.ref p0.toNat, .int (iI p1)] (xP (dC, dI) (xG L cid K N v) (xT cid) tW sK sV sz)) (va_Qi (fun (r : Int32) (_ : Unit) => ∃ z : Int, r = iI z ∧ (0 ≤ z ∧ z ≤ 1)) (fun _ _ => True) (va_A [] sz)) 0 0 (va_A [] sz) := by
  refine Met.ofW (cc := cX0_isUnfinishedOf) (maxL := 2) (ret := (some .boolean)) (by decide) rfl ?_
  intro p e s m args below meth c s₁ B hml hv
  obtain ⟨rfl, ⟨hsz, hP, hK, hD0⟩, hX⟩ := hv
  have hx := B.exec
  have hb := B.bytes
  have hr := B.returns
  have hts := atoms_spec (ws := (jk yX0_isUnfinishedOf cX0_isUnfinishedOf 2 (some .boolean))) B.pre
  have hj : ∀ w ∈ jw, w.before ([.ref p0.toNat, .int (iI p1)] : List Value).toArray s = true := fun w h => hts w (jm h)
  have hown : s.vm.findClass RX0 = some m.cls := findClass_of_methodNamed B.named
  subst hsz
  have hDw := hD0.self (sz := s.heap.size)
  have hAA : ∀ q : Nat, s.heap.size ≤ q → va_A (xG L cid K N v) s.heap.size q := fun q h => Or.inr h
  have hAw : ∀ q, va_A [] s.heap.size q → va_A (xG L cid K N v) s.heap.size q := ja_nil va_S.rf hAA
  generalize hAe : (va_A [] s.heap.size) = A at hAw ⊢
  have hA : ∀ q : Nat, s.heap.size ≤ q → A q := fun q h => by rw [← hAe]; exact Or.inr h
  have hS : va_S A s.heap s.heap [] := va_S.rf
  have hXa := hX.nar hAw
  have hP : va_P (dC, dI) vwCl (xG L cid K N v) s.heap := hP
  have hl := lv_entry ([.ref p0.toNat, .int (iI p1)]) (n := 2) (Nat.le_of_ble_eq_true rfl)
  rw [lg_entry_eq]
  generalize (lg_sl ([.ref p0.toNat, .int (iI p1)]) ++ List.replicate (2 - (lg_sl ([.ref p0.toNat, .int (iI p1)])).length) Slot.unset).toArray = ls at hl ⊢
  have hl : lv_has ls 2 [(0, .ref p0.toNat), (1, .int (iI p1))] := hl
  generalize hQ : MQ below (va_Qi (fun (r : Int32) (_ : Unit) => ∃ z : Int, r = iI z ∧ (0 ≤ z ∧ z ≤ 1)) (fun _ _ => True) A) ([.ref p0.toNat, .int (iI p1)] : List Value).toArray s 0 0 A = Q
  suffices ST : ∀ (H : Heap) (locs : List Loc), va_P (dC, dI) vwCl (xG L cid K N v) H → va_S A s.heap H locs → W p l e ({ frames := 0, cells := 0, slots := 0, locals := 0 }) s m ([.ref p0.toNat, .int (iI p1)] : List Value).toArray below meth c H locs 0 0 Q (F0 m 0 ls []) from ST _ _ hP hS
  clear hP hS
  intro H locs hP hS
  refine lv_aload_n hx hb dX0_isUnfinishedOf_0 rfl (lv_at hl 0 rfl) ?_
  have h_1 : (-2147483648) ≤ v p0 1 ∧ v p0 1 ≤ 2147483647 := xf_0_1 hI q0
  refine gx_RX0_27 (y := v p0 1) hx hb hj hown hK hP q0 rfl dX0_isUnfinishedOf_1 ?_
  refine xr_if_ne (tgt := 38) hx hb dX0_isUnfinishedOf_4 (by decide) (by omega) (fun h_2 => ?_) (fun h_2 => ?_)
  · refine lv_iconst (v := iI 0) hx hb dX0_isUnfinishedOf_38 rfl ?_
    rw [← hQ]
    exact W.zret (v := iI 0) (ty := .boolean) hx hb hr (nb_bool (by omega) (by omega)) (fun t ht hW => ⟨⟨iI 0, (), rfl, ⟨0, rfl, by omega⟩, trivial⟩, hS.F ht⟩) hS.2.2 dX0_isUnfinishedOf_39
  · refine lv_aload_n hx hb dX0_isUnfinishedOf_7 rfl (lv_at hl 0 rfl) ?_
    have h_3 : (-2147483648) ≤ v p0 14 ∧ v p0 14 ≤ 2147483647 := xf_0_14 hI q0
    refine gx_RX0_21 (y := v p0 14) hx hb hj hown hK hP q0 rfl dX0_isUnfinishedOf_8 ?_
    refine lv_iload_n hx hb dX0_isUnfinishedOf_11 rfl (lv_at hl 1 rfl) ?_
    refine xr_icmp_ne (tgt := 38) hx hb dX0_isUnfinishedOf_12 (by decide) (by omega) (by omega) (fun h_4 => ?_) (fun h_4 => ?_)
    · refine lv_iconst (v := iI 0) hx hb dX0_isUnfinishedOf_38 rfl ?_
      rw [← hQ]
      exact W.zret (v := iI 0) (ty := .boolean) hx hb hr (nb_bool (by omega) (by omega)) (fun t ht hW => ⟨⟨iI 0, (), rfl, ⟨0, rfl, by omega⟩, trivial⟩, hS.F ht⟩) hS.2.2 dX0_isUnfinishedOf_39
    · refine lv_aload_n hx hb dX0_isUnfinishedOf_15 rfl (lv_at hl 0 rfl) ?_
      have h_5 : 0 ≤ v p0 15 ∧ v p0 15 ≤ 200 := xf_0_15 hI q0
      refine gx_RX0_60 (y := v p0 15) hx hb hj hown hK hP q0 rfl dX0_isUnfinishedOf_16 ?_
      refine lv_aload_n hx hb dX0_isUnfinishedOf_19 rfl (lv_at hl 0 rfl) ?_
      have h_6 : 0 ≤ v p0 9 ∧ v p0 9 ≤ 200 := xf_0_9 hI q0
      refine gx_RX0_63 (y := v p0 9) hx hb hj hown hK hP q0 rfl dX0_isUnfinishedOf_20 ?_
      refine xr_icmp_ge (tgt := 38) hx hb dX0_isUnfinishedOf_23 (by decide) (by omega) (by omega) (fun h_7 => ?_) (fun h_7 => ?_)
      · refine lv_iconst (v := iI 0) hx hb dX0_isUnfinishedOf_38 rfl ?_
        rw [← hQ]
        exact W.zret (v := iI 0) (ty := .boolean) hx hb hr (nb_bool (by omega) (by omega)) (fun t ht hW => ⟨⟨iI 0, (), rfl, ⟨0, rfl, by omega⟩, trivial⟩, hS.F ht⟩) hS.2.2 dX0_isUnfinishedOf_39
      · refine lv_aload_n hx hb dX0_isUnfinishedOf_26 rfl (lv_at hl 0 rfl) ?_
        have h_8 : (-2147483648) ≤ v p0 11 ∧ v p0 11 ≤ 2147483647 := xf_0_11 hI q0
        refine gx_RX0_66 (y := v p0 11) hx hb hj hown hK hP q0 rfl dX0_isUnfinishedOf_27 ?_
        refine lv_iconst (v := iI 1) hx hb dX0_isUnfinishedOf_30 rfl ?_
        refine xr_icmp_eq (tgt := 38) hx hb dX0_isUnfinishedOf_31 (by decide) (by omega) (by omega) (fun h_9 => ?_) (fun h_9 => ?_)
        · refine lv_iconst (v := iI 0) hx hb dX0_isUnfinishedOf_38 rfl ?_
          rw [← hQ]
          exact W.zret (v := iI 0) (ty := .boolean) hx hb hr (nb_bool (by omega) (by omega)) (fun t ht hW => ⟨⟨iI 0, (), rfl, ⟨0, rfl, by omega⟩, trivial⟩, hS.F ht⟩) hS.2.2 dX0_isUnfinishedOf_39
        · refine lv_iconst (v := iI 1) hx hb dX0_isUnfinishedOf_34 rfl ?_
          refine lv_goto (tgt := 39) hx hb dX0_isUnfinishedOf_35 (by decide) ?_
          rw [← hQ]
          exact W.zret (v := iI 1) (ty := .boolean) hx hb hr (nb_bool (by omega) (by omega)) (fun t ht hW => ⟨⟨iI 1, (), rfl, ⟨1, rfl, by omega⟩, trivial⟩, hS.F ht⟩) hS.2.2 dX0_isUnfinishedOf_39
set_option maxHeartbeats 2000000 in
set_option maxRecDepth 100000 in
theorem sX7_kind (l : Launch) (dC : Nat → ClassId) (dI : Nat → Nat → Nat) (sz : Nat) (L : List Nat) (cid : Nat → ClassId) (K : Int → Nat) (N : Int → Int) (tW : Nat) (sK sV : Nat → Nat) (v : Int → Int → Int) (tT : Int → Int) (tN : Int) (p0 : Int) (hI : xI L K N v) (q0 : ok L K p0 7) (k1 : tks tT tN v p0) (k2 : 0 ≤ v p0 7 ∧ v p0 7 < v p0 6) : Met l yX7_kind (jk yX7_kind cX7_kind 1 (some .int)) ({ frames := 0, cells := 0, slots := 0, locals := 0 }) (va_Pc [.ref p0.toNat] (xP (dC, dI) (xG L cid K N v) (xT cid) tW sK sV sz)) (va_Qi (fun (r : Int32) (_ : Unit) => ∃ z : Int, r = iI z ∧ (0 ≤ z ∧ z ≤ 93) ∧ (z = tkd tT tN (tkx tT tN (v p0 7))) ∧ (z = 0 ∨ z = 3 ∨ v p0 7 + 1 < v p0 6)) (fun _ _ => True) (va_A [] sz)) 0 0 (va_A [] sz) := by
  refine Met.ofW (cc := cX7_kind) (maxL := 1) (ret := (some .int)) (by decide) rfl ?_
  intro p e s m args below meth c s₁ B hml hv
  obtain ⟨rfl, ⟨hsz, hP, hK, hD0⟩, hX⟩ := hv
  have hx := B.exec
  have hb := B.bytes
  have hr := B.returns
  have hts := atoms_spec (ws := (jk yX7_kind cX7_kind 1 (some .int))) B.pre
  have hj : ∀ w ∈ jw, w.before ([.ref p0.toNat] : List Value).toArray s = true := fun w h => hts w (jm h)
  have hown : s.vm.findClass RX7 = some m.cls := findClass_of_methodNamed B.named
  subst hsz
  have hDw := hD0.self (sz := s.heap.size)
  have hAA : ∀ q : Nat, s.heap.size ≤ q → va_A (xG L cid K N v) s.heap.size q := fun q h => Or.inr h
  have hAw : ∀ q, va_A [] s.heap.size q → va_A (xG L cid K N v) s.heap.size q := ja_nil va_S.rf hAA
  generalize hAe : (va_A [] s.heap.size) = A at hAw ⊢
  have hA : ∀ q : Nat, s.heap.size ≤ q → A q := fun q h => by rw [← hAe]; exact Or.inr h
  have hS : va_S A s.heap s.heap [] := va_S.rf
  have hXa := hX.nar hAw
  have hP : va_P (dC, dI) vwCl (xG L cid K N v) s.heap := hP
  have hl := lv_entry ([.ref p0.toNat]) (n := 1) (Nat.le_of_ble_eq_true rfl)
  rw [lg_entry_eq]
  generalize (lg_sl ([.ref p0.toNat]) ++ List.replicate (1 - (lg_sl ([.ref p0.toNat])).length) Slot.unset).toArray = ls at hl ⊢
  have hl : lv_has ls 1 [(0, .ref p0.toNat)] := hl
  generalize hQ : MQ below (va_Qi (fun (r : Int32) (_ : Unit) => ∃ z : Int, r = iI z ∧ (0 ≤ z ∧ z ≤ 93) ∧ (z = tkd tT tN (tkx tT tN (v p0 7))) ∧ (z = 0 ∨ z = 3 ∨ v p0 7 + 1 < v p0 6)) (fun _ _ => True) A) ([.ref p0.toNat] : List Value).toArray s 0 0 A = Q
  suffices ST : ∀ (H : Heap) (locs : List Loc), va_P (dC, dI) vwCl (xG L cid K N v) H → va_S A s.heap H locs → W p l e ({ frames := 0, cells := 0, slots := 0, locals := 0 }) s m ([.ref p0.toNat] : List Value).toArray below meth c H locs 0 0 Q (F0 m 0 ls []) from ST _ _ hP hS
  clear hP hS
  intro H locs hP hS
  have hTK := tks_m k1
  have t7 := tks_k k1 (j := v p0 7) (by omega) (by omega)
  have t8 := tks_nx k1 (j := v p0 7) (by omega) (by omega)
  have t5 := tkd_r tT tN (tkx tT tN (v p0 7))
  refine lv_aload_n hx hb dX7_kind_0 rfl (lv_at hl 0 rfl) ?_
  have h_1 : (-2147483648) ≤ v p0 7 ∧ v p0 7 ≤ 2147483647 := xf_7_7 hI q0
  refine gx_RX7_53 (y := v p0 7) hx hb hj hown hK hP q0 rfl dX7_kind_1 ?_
  refine xr_if_lt (tgt := 42) hx hb dX7_kind_4 (by decide) (by omega) (fun h_2 => ?_) (fun h_2 => ?_)
  · refine lv_iconst (v := iI 0) hx hb dX7_kind_42 rfl ?_
    have h_3 : (-2147483648) ≤ v p0 6 ∧ v p0 6 ≤ 2147483647 := xf_7_6 hI q0
    rw [← hQ]
    exact W.iret (v := iI 0) hx hb hr (fun t ht hW => ⟨⟨iI 0, (), rfl, ⟨0, rfl, by omega, by omega, by omega⟩, trivial⟩, hS.F ht⟩) hS.2.2 dX7_kind_43
  · refine lv_aload_n hx hb dX7_kind_7 rfl (lv_at hl 0 rfl) ?_
    refine gx_RX7_53 (y := v p0 7) hx hb hj hown hK hP q0 rfl dX7_kind_8 ?_
    refine lv_aload_n hx hb dX7_kind_11 rfl (lv_at hl 0 rfl) ?_
    have h_4 : (-2147483648) ≤ v p0 6 ∧ v p0 6 ≤ 2147483647 := xf_7_6 hI q0
    refine gx_RX7_106 (y := v p0 6) hx hb hj hown hK hP q0 rfl dX7_kind_12 ?_
    refine xr_icmp_ge (tgt := 42) hx hb dX7_kind_15 (by decide) (by omega) (by omega) (fun h_5 => ?_) (fun h_5 => ?_)
    · refine lv_iconst (v := iI 0) hx hb dX7_kind_42 rfl ?_
      rw [← hQ]
      exact W.iret (v := iI 0) hx hb hr (fun t ht hW => ⟨⟨iI 0, (), rfl, ⟨0, rfl, by omega, by omega, by omega⟩, trivial⟩, hS.F ht⟩) hS.2.2 dX7_kind_43
    · refine lv_aload_n hx hb dX7_kind_18 rfl (lv_at hl 0 rfl) ?_
      refine gx_RX7_53 (y := v p0 7) hx hb hj hown hK hP q0 rfl dX7_kind_19 ?_
      refine lv_aload_n hx hb dX7_kind_22 rfl (lv_at hl 0 rfl) ?_
      have h_6 : ok L K (v p0 2) 21 := xf_7_2 hI q0
      have h_7 : N (v p0 2) = 601 := xn_21 hI h_6
      refine gx_RX7_15 (y := v p0 2) hx hb hj hown hK hP q0 ((xf_7_2 hI q0).1) rfl dX7_kind_23 ?_
      refine lx_21 (y := 601) hx hb hK hP h_6 (by omega) (by omega) dX7_kind_26 ?_
      refine xr_icmp_ge (tgt := 42) hx hb dX7_kind_27 (by decide) (by omega) (by omega) (fun h_8 => ?_) (fun h_8 => ?_)
      · refine lv_iconst (v := iI 0) hx hb dX7_kind_42 rfl ?_
        rw [← hQ]
        exact W.iret (v := iI 0) hx hb hr (fun t ht hW => ⟨⟨iI 0, (), rfl, ⟨0, rfl, by omega, by omega, by omega⟩, trivial⟩, hS.F ht⟩) hS.2.2 dX7_kind_43
      · refine lv_aload_n hx hb dX7_kind_30 rfl (lv_at hl 0 rfl) ?_
        refine gx_RX7_15 (y := v p0 2) hx hb hj hown hK hP q0 ((xf_7_2 hI q0).1) rfl dX7_kind_31 ?_
        refine lv_aload_n hx hb dX7_kind_34 rfl (lv_at hl 0 rfl) ?_
        refine gx_RX7_53 (y := v p0 7) hx hb hj hown hK hP q0 rfl dX7_kind_35 ?_
        have h_9 : (-2147483648) ≤ v (v p0 2) (v p0 7) ∧ v (v p0 2) (v p0 7) ≤ 2147483647 := xe_21 hI h_6 (by omega)
        refine ax_21 (y := v (v p0 2) (v p0 7)) hx hb hK hP h_6 (by omega) (by omega) (by omega) rfl dX7_kind_38 ?_
        refine lv_goto (tgt := 43) hx hb dX7_kind_39 (by decide) ?_
        rw [← hQ]
        exact W.iret (v := iI (v (v p0 2) (v p0 7))) hx hb hr (fun t ht hW => ⟨⟨iI (v (v p0 2) (v p0 7)), (), rfl, ⟨v (v p0 2) (v p0 7), rfl, by omega, by omega, by omega⟩, trivial⟩, hS.F ht⟩) hS.2.2 dX7_kind_43
set_option maxHeartbeats 2000000 in
set_option maxRecDepth 100000 in
theorem sX7_word (l : Launch) (dC : Nat → ClassId) (dI : Nat → Nat → Nat) (sz : Nat) (L : List Nat) (cid : Nat → ClassId) (K : Int → Nat) (N : Int → Int) (tW : Nat) (sK sV : Nat → Nat) (v : Int → Int → Int) (tT : Int → Int) (tN : Int) (p0 : Int) (hI : xI L K N v) (q0 : ok L K p0 7) (k1 : tks tT tN v p0) (k2 : 0 ≤ v p0 7 ∧ v p0 7 < v p0 6) : Met l yX7_word (jk yX7_word cX7_word 1 (some .int)) ({ frames := 1, cells := 0, slots := 0, locals := 20 }) (va_Pc [.ref p0.toNat] (xP (dC, dI) (xG L cid K N v) (xT cid) tW sK sV sz)) (va_Qi (fun (r : Int32) (_ : Unit) => ∃ z : Int, r = iI z ∧ ((-1) ≤ z ∧ z ≤ 27) ∧ (z = twd tT tN (tkx tT tN (v p0 7))) ∧ (z = -1 ∨ v p0 7 + 1 < v p0 6)) (fun _ _ => True) (va_A [] sz)) 0 0 (va_A [] sz) := by
  refine Met.ofW (cc := cX7_word) (maxL := 1) (ret := (some .int)) (by decide) rfl ?_
  intro p e s m args below meth c s₁ B hml hv
  obtain ⟨rfl, ⟨hsz, hP, hK, hD0⟩, hX⟩ := hv
  have hx := B.exec
  have hb := B.bytes
  have hr := B.returns
  have hts := atoms_spec (ws := (jk yX7_word cX7_word 1 (some .int))) B.pre
  have hj : ∀ w ∈ jw, w.before ([.ref p0.toNat] : List Value).toArray s = true := fun w h => hts w (jm h)
  have hown : s.vm.findClass RX7 = some m.cls := findClass_of_methodNamed B.named
  subst hsz
  have hDw := hD0.self (sz := s.heap.size)
  have hAA : ∀ q : Nat, s.heap.size ≤ q → va_A (xG L cid K N v) s.heap.size q := fun q h => Or.inr h
  have hAw : ∀ q, va_A [] s.heap.size q → va_A (xG L cid K N v) s.heap.size q := ja_nil va_S.rf hAA
  generalize hAe : (va_A [] s.heap.size) = A at hAw ⊢
  have hA : ∀ q : Nat, s.heap.size ≤ q → A q := fun q h => by rw [← hAe]; exact Or.inr h
  have hS : va_S A s.heap s.heap [] := va_S.rf
  have hXa := hX.nar hAw
  have hP : va_P (dC, dI) vwCl (xG L cid K N v) s.heap := hP
  have hl := lv_entry ([.ref p0.toNat]) (n := 1) (Nat.le_of_ble_eq_true rfl)
  rw [lg_entry_eq]
  generalize (lg_sl ([.ref p0.toNat]) ++ List.replicate (1 - (lg_sl ([.ref p0.toNat])).length) Slot.unset).toArray = ls at hl ⊢
  have hl : lv_has ls 1 [(0, .ref p0.toNat)] := hl
  generalize hQ : MQ below (va_Qi (fun (r : Int32) (_ : Unit) => ∃ z : Int, r = iI z ∧ ((-1) ≤ z ∧ z ≤ 27) ∧ (z = twd tT tN (tkx tT tN (v p0 7))) ∧ (z = -1 ∨ v p0 7 + 1 < v p0 6)) (fun _ _ => True) A) ([.ref p0.toNat] : List Value).toArray s 0 0 A = Q
  suffices ST : ∀ (H : Heap) (locs : List Loc), va_P (dC, dI) vwCl (xG L cid K N v) H → va_S A s.heap H locs → W p l e ({ frames := 1, cells := 0, slots := 0, locals := 20 }) s m ([.ref p0.toNat] : List Value).toArray below meth c H locs 0 0 Q (F0 m 0 ls []) from ST _ _ hP hS
  clear hP hS
  intro H locs hP hS
  have hTK := tks_m k1
  have t7 := tks_w k1 (j := v p0 7) (by omega) (by omega)
  have t8 := tks_nx k1 (j := v p0 7) (by omega) (by omega)
  have t5 := twd_r tT tN (tkx tT tN (v p0 7))
  have t4 := twd_d tT tN (tkx tT tN (v p0 7))
  refine lv_aload_n hx hb dX7_word_0 rfl (lv_at hl 0 rfl) ?_
  have h_1 : (-2147483648) ≤ v p0 7 ∧ v p0 7 ≤ 2147483647 := xf_7_7 hI q0
  have h_2 : (-2147483648) ≤ v p0 6 ∧ v p0 6 ≤ 2147483647 := xf_7_6 hI q0
  refine jc_i (va_runV (As := []) (rest := []) ⟨hx, hb, hml, hown, hts⟩ (sX7_kind l dC dI _ L cid K N tW sK sV v tT tN p0 hI q0 k1 (by omega)) (cwV 0 hts (jgoodV m_674 m_675 m_676 m_677 m_678) rfl rfl rfl (by decide +kernel) ⟨(Nat.le_of_ble_eq_true rfl), (Nat.le_of_ble_eq_true rfl)⟩) ⟨xP_blind, xrecv hK hP q0 rfl rfl, fun U hU hW => ⟨rfl, xP_of hU hW hP hK hDw hX hS hAw hAA⟩⟩ rfl rfl hl.1 rfl (lv_room (Nat.le_of_ble_eq_true rfl)) dX7_word_1 ⟨(Nat.le_of_ble_eq_true rfl), (Nat.le_of_ble_eq_true rfl)⟩) hP hS hA (fun r_3 H locs w_4 hP hS => ?_)
  obtain ⟨z_5, rfl, h_6, h_7, h_8⟩ := w_4
  refine lv_iconst (v := iI 1) hx hb dX7_word_4 rfl ?_
  refine xr_icmp_ne (tgt := 20) hx hb dX7_word_5 (by decide) (by omega) (by omega) (fun h_9 => ?_) (fun h_9 => ?_)
  · refine lv_iconst (v := iI (-1)) hx hb dX7_word_20 rfl ?_
    rw [← hQ]
    exact W.iret (v := iI (-1)) hx hb hr (fun t ht hW => ⟨⟨iI (-1), (), rfl, ⟨(-1), rfl, by omega, by omega, by omega⟩, trivial⟩, hS.F ht⟩) hS.2.2 dX7_word_21
  · refine lv_aload_n hx hb dX7_word_8 rfl (lv_at hl 0 rfl) ?_
    have h_10 : ok L K (v p0 5) 24 := xf_7_5 hI q0
    have h_11 : N (v p0 5) = 601 := xn_24 hI h_10
    refine gx_RX7_25 (y := v p0 5) hx hb hj hown hK hP q0 ((xf_7_5 hI q0).1) rfl dX7_word_9 ?_
    refine lv_aload_n hx hb dX7_word_12 rfl (lv_at hl 0 rfl) ?_
    refine gx_RX7_53 (y := v p0 7) hx hb hj hown hK hP q0 rfl dX7_word_13 ?_
    have h_12 : (-2147483648) ≤ v (v p0 5) (v p0 7) ∧ v (v p0 5) (v p0 7) ≤ 2147483647 := xe_24 hI h_10 (by omega)
    refine ax_24 (y := v (v p0 5) (v p0 7)) hx hb hK hP h_10 (by omega) (by omega) (by omega) rfl dX7_word_16 ?_
    refine lv_goto (tgt := 21) hx hb dX7_word_17 (by decide) ?_
    rw [← hQ]
    exact W.iret (v := iI (v (v p0 5) (v p0 7))) hx hb hr (fun t ht hW => ⟨⟨iI (v (v p0 5) (v p0 7)), (), rfl, ⟨v (v p0 5) (v p0 7), rfl, by omega, by omega, by omega⟩, trivial⟩, hS.F ht⟩) hS.2.2 dX7_word_21
set_option maxHeartbeats 2000000 in
set_option maxRecDepth 100000 in
theorem sX7_refuse (l : Launch) (dC : Nat → ClassId) (dI : Nat → Nat → Nat) (sz : Nat) (L : List Nat) (cid : Nat → ClassId) (K : Int → Nat) (N : Int → Int) (tW : Nat) (sK sV : Nat → Nat) (v : Int → Int → Int) (tT : Int → Int) (tN : Int) (p0 : Int) (hI : xI L K N v) (q0 : ok L K p0 7) (k1 : tks tT tN v p0) (k2 : 0 ≤ v p0 7 ∧ v p0 7 < v p0 6) : Met l yX7_refuse (jk yX7_refuse cX7_refuse 1 none) ({ frames := 0, cells := 0, slots := 0, locals := 0 }) (va_Pc [.ref p0.toNat] (xP (dC, dI) (xG L cid K N v) (xT cid) tW sK sV sz)) (va_Qv (fun (u : (Int → Int → Int)) => (xI L K N u) ∧ (fr K [(7, 8)] u v) ∧ ((v p0 8 ≠ -1 ∧ u p0 8 = v p0 8) ∨ (v p0 8 = -1 ∧ u p0 8 = tkx tT tN (v p0 7) ∧ 0 ≤ u p0 8))) (fun u t => va_P (dC, dI) vwCl (xG L cid K N u) t.heap ∧ va_K (dC, dI) vwCl (xT cid) t ∧ va_D (va_A (xG L cid K N v) sz) (xG L cid K N u)) (va_A (xG L cid K N v) sz)) 0 0 (va_A (xG L cid K N v) sz) := by
  refine Met.ofW (cc := cX7_refuse) (maxL := 1) (ret := none) (by decide) rfl ?_
  intro p e s m args below meth c s₁ B hml hv
  obtain ⟨rfl, ⟨hsz, hP, hK, hD0⟩, hX⟩ := hv
  have hx := B.exec
  have hb := B.bytes
  have hr := B.returns
  have hts := atoms_spec (ws := (jk yX7_refuse cX7_refuse 1 none)) B.pre
  have hj : ∀ w ∈ jw, w.before ([.ref p0.toNat] : List Value).toArray s = true := fun w h => hts w (jm h)
  have hown : s.vm.findClass RX7 = some m.cls := findClass_of_methodNamed B.named
  subst hsz
  have hD := hD0.self (sz := s.heap.size)
  generalize hAe : (va_A (xG L cid K N v) s.heap.size) = A at hD hX ⊢
  have hA : ∀ q : Nat, s.heap.size ≤ q → A q := fun q h => by rw [← hAe]; exact Or.inr h
  have hS : va_S A s.heap s.heap [] := va_S.rf
  have hXa := hX
  have hP : va_P (dC, dI) vwCl (xG L cid K N v) s.heap := hP
  have hl := lv_entry ([.ref p0.toNat]) (n := 1) (Nat.le_of_ble_eq_true rfl)
  rw [lg_entry_eq]
  generalize (lg_sl ([.ref p0.toNat]) ++ List.replicate (1 - (lg_sl ([.ref p0.toNat])).length) Slot.unset).toArray = ls at hl ⊢
  have hl : lv_has ls 1 [(0, .ref p0.toNat)] := hl
  generalize hQ : MQ below (va_Qv (fun (u : (Int → Int → Int)) => (xI L K N u) ∧ (fr K [(7, 8)] u v) ∧ ((v p0 8 ≠ -1 ∧ u p0 8 = v p0 8) ∨ (v p0 8 = -1 ∧ u p0 8 = tkx tT tN (v p0 7) ∧ 0 ≤ u p0 8))) (fun u t => va_P (dC, dI) vwCl (xG L cid K N u) t.heap ∧ va_K (dC, dI) vwCl (xT cid) t ∧ va_D A (xG L cid K N u)) A) ([.ref p0.toNat] : List Value).toArray s 0 0 A = Q
  suffices ST : ∀ (H : Heap) (locs : List Loc), va_P (dC, dI) vwCl (xG L cid K N v) H → va_S A s.heap H locs → W p l e ({ frames := 0, cells := 0, slots := 0, locals := 0 }) s m ([.ref p0.toNat] : List Value).toArray below meth c H locs 0 0 Q (F0 m 0 ls []) from ST _ _ hP hS
  clear hP hS
  intro H locs hP hS
  have hTK := tks_m k1
  have t7 := tks_s k1 (j := v p0 7) (by omega) (by omega)
  have t6 := tkx_ge (T := tT) (n := tN) (j := v p0 7) (by omega)
  refine lv_aload_n hx hb dX7_refuse_0 rfl (lv_at hl 0 rfl) ?_
  have h_1 : (-2147483648) ≤ v p0 8 ∧ v p0 8 ≤ 2147483647 := xf_7_8 hI q0
  refine gx_RX7_50 (y := v p0 8) hx hb hj hown hK hP q0 rfl dX7_refuse_1 ?_
  refine lv_iconst (v := iI (-1)) hx hb dX7_refuse_4 rfl ?_
  refine xr_icmp_ne (tgt := 58) hx hb dX7_refuse_5 (by decide) (by omega) (by omega) (fun h_2 => ?_) (fun h_2 => ?_)
  · have h_3 : (-2147483648) ≤ v p0 7 ∧ v p0 7 ≤ 2147483647 := xf_7_7 hI q0
    have h_4 : (-2147483648) ≤ v p0 6 ∧ v p0 6 ≤ 2147483647 := xf_7_6 hI q0
    rw [← hQ]
    exact W.vret hx hb hr (fun t ht hW => ⟨⟨v, rfl, ⟨hI, fr_rf, by omega⟩, by rw [ht]; exact hP, va_K.moved hW.alike hK, hD⟩, hS.F ht⟩) hS.2.2 dX7_refuse_58
  · refine lv_aload_n hx hb dX7_refuse_8 rfl (lv_at hl 0 rfl) ?_
    refine lv_aload_n hx hb dX7_refuse_9 rfl (lv_at hl 0 rfl) ?_
    have h_5 : (-2147483648) ≤ v p0 7 ∧ v p0 7 ≤ 2147483647 := xf_7_7 hI q0
    refine gx_RX7_53 (y := v p0 7) hx hb hj hown hK hP q0 rfl dX7_refuse_10 ?_
    refine xr_if_lt (tgt := 51) hx hb dX7_refuse_13 (by decide) (by omega) (fun h_6 => ?_) (fun h_6 => ?_)
    · refine lv_aload_n hx hb dX7_refuse_51 rfl (lv_at hl 0 rfl) ?_
      have h_7 : 0 ≤ v p0 1 ∧ v p0 1 ≤ 600 := xf_7_1 hI q0
      refine gx_RX7_43 (y := v p0 1) hx hb hj hown hK hP q0 rfl dX7_refuse_52 ?_
      refine px_RX7_50 (y := v p0 1) hx hb hj hown hK hP hD hS hI q0 ⟨by omega, by omega⟩ dX7_refuse_55 (fun v_8 H locs f_9 e_10 o_11 I_12 hP hD hS => ?_)
      have h_13 : (-2147483648) ≤ v p0 6 ∧ v p0 6 ≤ 2147483647 := xf_7_6 hI q0
      have b_14 : v_8 p0 8 = v p0 1 := e_10
      rw [← hQ]
      exact W.vret hx hb hr (fun t ht hW => ⟨⟨v_8, rfl, ⟨I_12, (fr_tr f_9 rfl fr_rf), by omega⟩, by rw [ht]; exact hP, va_K.moved hW.alike hK, hD⟩, hS.F ht⟩) hS.2.2 dX7_refuse_58
    · refine lv_aload_n hx hb dX7_refuse_16 rfl (lv_at hl 0 rfl) ?_
      refine gx_RX7_53 (y := v p0 7) hx hb hj hown hK hP q0 rfl dX7_refuse_17 ?_
      refine lv_aload_n hx hb dX7_refuse_20 rfl (lv_at hl 0 rfl) ?_
      have h_15 : (-2147483648) ≤ v p0 6 ∧ v p0 6 ≤ 2147483647 := xf_7_6 hI q0
      refine gx_RX7_106 (y := v p0 6) hx hb hj hown hK hP q0 rfl dX7_refuse_21 ?_
      refine xr_icmp_ge (tgt := 51) hx hb dX7_refuse_24 (by decide) (by omega) (by omega) (fun h_16 => ?_) (fun h_16 => ?_)
      · refine lv_aload_n hx hb dX7_refuse_51 rfl (lv_at hl 0 rfl) ?_
        have h_17 : 0 ≤ v p0 1 ∧ v p0 1 ≤ 600 := xf_7_1 hI q0
        refine gx_RX7_43 (y := v p0 1) hx hb hj hown hK hP q0 rfl dX7_refuse_52 ?_
        refine px_RX7_50 (y := v p0 1) hx hb hj hown hK hP hD hS hI q0 ⟨by omega, by omega⟩ dX7_refuse_55 (fun v_18 H locs f_19 e_20 o_21 I_22 hP hD hS => ?_)
        have b_23 : v_18 p0 8 = v p0 1 := e_20
        rw [← hQ]
        exact W.vret hx hb hr (fun t ht hW => ⟨⟨v_18, rfl, ⟨I_22, (fr_tr f_19 rfl fr_rf), by omega⟩, by rw [ht]; exact hP, va_K.moved hW.alike hK, hD⟩, hS.F ht⟩) hS.2.2 dX7_refuse_58
      · refine lv_aload_n hx hb dX7_refuse_27 rfl (lv_at hl 0 rfl) ?_
        refine gx_RX7_53 (y := v p0 7) hx hb hj hown hK hP q0 rfl dX7_refuse_28 ?_
        refine lv_aload_n hx hb dX7_refuse_31 rfl (lv_at hl 0 rfl) ?_
        have h_24 : ok L K (v p0 3) 22 := xf_7_3 hI q0
        have h_25 : N (v p0 3) = 601 := xn_22 hI h_24
        refine gx_RX7_19 (y := v p0 3) hx hb hj hown hK hP q0 ((xf_7_3 hI q0).1) rfl dX7_refuse_32 ?_
        refine lx_22 (y := 601) hx hb hK hP h_24 (by omega) (by omega) dX7_refuse_35 ?_
        refine xr_icmp_ge (tgt := 51) hx hb dX7_refuse_36 (by decide) (by omega) (by omega) (fun h_26 => ?_) (fun h_26 => ?_)
        · refine lv_aload_n hx hb dX7_refuse_51 rfl (lv_at hl 0 rfl) ?_
          have h_27 : 0 ≤ v p0 1 ∧ v p0 1 ≤ 600 := xf_7_1 hI q0
          refine gx_RX7_43 (y := v p0 1) hx hb hj hown hK hP q0 rfl dX7_refuse_52 ?_
          refine px_RX7_50 (y := v p0 1) hx hb hj hown hK hP hD hS hI q0 ⟨by omega, by omega⟩ dX7_refuse_55 (fun v_28 H locs f_29 e_30 o_31 I_32 hP hD hS => ?_)
          have b_33 : v_28 p0 8 = v p0 1 := e_30
          rw [← hQ]
          exact W.vret hx hb hr (fun t ht hW => ⟨⟨v_28, rfl, ⟨I_32, (fr_tr f_29 rfl fr_rf), by omega⟩, by rw [ht]; exact hP, va_K.moved hW.alike hK, hD⟩, hS.F ht⟩) hS.2.2 dX7_refuse_58
        · refine lv_aload_n hx hb dX7_refuse_39 rfl (lv_at hl 0 rfl) ?_
          refine gx_RX7_19 (y := v p0 3) hx hb hj hown hK hP q0 ((xf_7_3 hI q0).1) rfl dX7_refuse_40 ?_
          refine lv_aload_n hx hb dX7_refuse_43 rfl (lv_at hl 0 rfl) ?_
          refine gx_RX7_53 (y := v p0 7) hx hb hj hown hK hP q0 rfl dX7_refuse_44 ?_
          have h_34 : (-2147483648) ≤ v (v p0 3) (v p0 7) ∧ v (v p0 3) (v p0 7) ≤ 2147483647 := xe_22 hI h_24 (by omega)
          refine ax_22 (y := v (v p0 3) (v p0 7)) hx hb hK hP h_24 (by omega) (by omega) (by omega) rfl dX7_refuse_47 ?_
          refine lv_goto (tgt := 55) hx hb dX7_refuse_48 (by decide) ?_
          refine px_RX7_50 (y := v (v p0 3) (v p0 7)) hx hb hj hown hK hP hD hS hI q0 ⟨by omega, by omega⟩ dX7_refuse_55 (fun v_35 H locs f_36 e_37 o_38 I_39 hP hD hS => ?_)
          have b_40 : v_35 p0 8 = v (v p0 3) (v p0 7) := e_37
          rw [← hQ]
          exact W.vret hx hb hr (fun t ht hW => ⟨⟨v_35, rfl, ⟨I_39, (fr_tr f_36 rfl fr_rf), by omega⟩, by rw [ht]; exact hP, va_K.moved hW.alike hK, hD⟩, hS.F ht⟩) hS.2.2 dX7_refuse_58
set_option maxHeartbeats 2000000 in
set_option maxRecDepth 100000 in
theorem sX7_emit (l : Launch) (dC : Nat → ClassId) (dI : Nat → Nat → Nat) (sz : Nat) (L : List Nat) (cid : Nat → ClassId) (K : Int → Nat) (N : Int → Int) (tW : Nat) (sK sV : Nat → Nat) (v : Int → Int → Int) (p0 : Int) (p1 : Int) (hI : xI L K N v) (q0 : ok L K p0 7) (q1 : rg p1) : Met l yX7_emit (jk yX7_emit cX7_emit 2 none) ({ frames := 0, cells := 0, slots := 0, locals := 0 }) (va_Pc [.ref p0.toNat, .int (iI p1)] (xP (dC, dI) (xG L cid K N v) (xT cid) tW sK sV sz)) (va_Qv (fun (u : (Int → Int → Int)) => (xI L K N u) ∧ (fr K [(7, 10), (25, (-1))] u v)) (fun u t => va_P (dC, dI) vwCl (xG L cid K N u) t.heap ∧ va_K (dC, dI) vwCl (xT cid) t ∧ va_D (va_A (xG L cid K N v) sz) (xG L cid K N u)) (va_A (xG L cid K N v) sz)) 0 0 (va_A (xG L cid K N v) sz) := by
  refine Met.ofW (cc := cX7_emit) (maxL := 2) (ret := none) (by decide) rfl ?_
  intro p e s m args below meth c s₁ B hml hv
  obtain ⟨rfl, ⟨hsz, hP, hK, hD0⟩, hX⟩ := hv
  have hx := B.exec
  have hb := B.bytes
  have hr := B.returns
  have hts := atoms_spec (ws := (jk yX7_emit cX7_emit 2 none)) B.pre
  have hj : ∀ w ∈ jw, w.before ([.ref p0.toNat, .int (iI p1)] : List Value).toArray s = true := fun w h => hts w (jm h)
  have hown : s.vm.findClass RX7 = some m.cls := findClass_of_methodNamed B.named
  subst hsz
  have hD := hD0.self (sz := s.heap.size)
  generalize hAe : (va_A (xG L cid K N v) s.heap.size) = A at hD hX ⊢
  have hA : ∀ q : Nat, s.heap.size ≤ q → A q := fun q h => by rw [← hAe]; exact Or.inr h
  have hS : va_S A s.heap s.heap [] := va_S.rf
  have hXa := hX
  have hP : va_P (dC, dI) vwCl (xG L cid K N v) s.heap := hP
  have hl := lv_entry ([.ref p0.toNat, .int (iI p1)]) (n := 2) (Nat.le_of_ble_eq_true rfl)
  rw [lg_entry_eq]
  generalize (lg_sl ([.ref p0.toNat, .int (iI p1)]) ++ List.replicate (2 - (lg_sl ([.ref p0.toNat, .int (iI p1)])).length) Slot.unset).toArray = ls at hl ⊢
  have hl : lv_has ls 2 [(0, .ref p0.toNat), (1, .int (iI p1))] := hl
  generalize hQ : MQ below (va_Qv (fun (u : (Int → Int → Int)) => (xI L K N u) ∧ (fr K [(7, 10), (25, (-1))] u v)) (fun u t => va_P (dC, dI) vwCl (xG L cid K N u) t.heap ∧ va_K (dC, dI) vwCl (xT cid) t ∧ va_D A (xG L cid K N u)) A) ([.ref p0.toNat, .int (iI p1)] : List Value).toArray s 0 0 A = Q
  suffices ST : ∀ (H : Heap) (locs : List Loc), va_P (dC, dI) vwCl (xG L cid K N v) H → va_S A s.heap H locs → W p l e ({ frames := 0, cells := 0, slots := 0, locals := 0 }) s m ([.ref p0.toNat, .int (iI p1)] : List Value).toArray below meth c H locs 0 0 Q (F0 m 0 ls []) from ST _ _ hP hS
  clear hP hS
  intro H locs hP hS
  refine lv_aload_n hx hb dX7_emit_0 rfl (lv_at hl 0 rfl) ?_
  have h_1 : (-2147483648) ≤ v p0 8 ∧ v p0 8 ≤ 2147483647 := xf_7_8 hI q0
  refine gx_RX7_50 (y := v p0 8) hx hb hj hown hK hP q0 rfl dX7_emit_1 ?_
  refine lv_iconst (v := iI (-1)) hx hb dX7_emit_4 rfl ?_
  refine xr_icmp_ne (tgt := 47) hx hb dX7_emit_5 (by decide) (by omega) (by omega) (fun h_2 => ?_) (fun h_2 => ?_)
  · rw [← hQ]
    exact W.vret hx hb hr (fun t ht hW => ⟨⟨v, rfl, ⟨hI, fr_rf⟩, by rw [ht]; exact hP, va_K.moved hW.alike hK, hD⟩, hS.F ht⟩) hS.2.2 dX7_emit_47
  · refine lv_aload_n hx hb dX7_emit_8 rfl (lv_at hl 0 rfl) ?_
    have h_3 : 0 ≤ v p0 10 ∧ v p0 10 ≤ 600 := xf_7_10 hI q0
    refine gx_RX7_56 (y := v p0 10) hx hb hj hown hK hP q0 rfl dX7_emit_9 ?_
    refine xr_if_lt (tgt := 47) hx hb dX7_emit_12 (by decide) (by omega) (fun h_4 => ?_) (fun h_4 => ?_)
    · exfalso; omega
    · refine lv_aload_n hx hb dX7_emit_15 rfl (lv_at hl 0 rfl) ?_
      refine gx_RX7_56 (y := v p0 10) hx hb hj hown hK hP q0 rfl dX7_emit_16 ?_
      refine lv_aload_n hx hb dX7_emit_19 rfl (lv_at hl 0 rfl) ?_
      have h_5 : ok L K (v p0 9) 25 := xf_7_9 hI q0
      have h_6 : N (v p0 9) = 600 := xn_25 hI h_5
      refine gx_RX7_28 (y := v p0 9) hx hb hj hown hK hP q0 ((xf_7_9 hI q0).1) rfl dX7_emit_20 ?_
      refine lx_25 (y := 600) hx hb hK hP h_5 (by omega) (by omega) dX7_emit_23 ?_
      refine xr_icmp_ge (tgt := 47) hx hb dX7_emit_24 (by decide) (by omega) (by omega) (fun h_7 => ?_) (fun h_7 => ?_)
      · rw [← hQ]
        exact W.vret hx hb hr (fun t ht hW => ⟨⟨v, rfl, ⟨hI, fr_rf⟩, by rw [ht]; exact hP, va_K.moved hW.alike hK, hD⟩, hS.F ht⟩) hS.2.2 dX7_emit_47
      · refine lv_aload_n hx hb dX7_emit_27 rfl (lv_at hl 0 rfl) ?_
        refine gx_RX7_28 (y := v p0 9) hx hb hj hown hK hP q0 ((xf_7_9 hI q0).1) rfl dX7_emit_28 ?_
        refine lv_aload_n hx hb dX7_emit_31 rfl (lv_at hl 0 rfl) ?_
        refine gx_RX7_56 (y := v p0 10) hx hb hj hown hK hP q0 rfl dX7_emit_32 ?_
        refine lv_iload_n hx hb dX7_emit_35 rfl (lv_at hl 1 rfl) ?_
        refine sx_25 (y := p1) hx hb hK hP hD hS hI h_5 (by omega) (by omega) (by omega) ⟨by omega, by omega⟩ dX7_emit_36 (fun v_8 H locs f_9 e_10 o_11 I_12 hP hD hS => ?_)
        refine lv_aload_n hx hb dX7_emit_37 rfl (lv_at hl 0 rfl) ?_
        refine lv_dup hx hb dX7_emit_38 rfl ?_
        refine gx_RX7_56 (y := v p0 10) hx hb hj hown hK hP q0 (fr_use q0 f_9 rfl) dX7_emit_39 ?_
        refine lv_iconst (v := iI 1) hx hb dX7_emit_42 rfl ?_
        refine xr_add hx hb dX7_emit_43 ?_
        refine px_RX7_56 (y := (v p0 10) + 1) hx hb hj hown hK hP hD hS I_12 q0 ⟨by omega, by omega⟩ dX7_emit_44 (fun v_13 H locs f_14 e_15 o_16 I_17 hP hD hS => ?_)
        rw [← hQ]
        exact W.vret hx hb hr (fun t ht hW => ⟨⟨v_13, rfl, ⟨I_17, (fr_tr f_14 rfl (fr_tr f_9 rfl fr_rf))⟩, by rw [ht]; exact hP, va_K.moved hW.alike hK, hD⟩, hS.F ht⟩) hS.2.2 dX7_emit_47
