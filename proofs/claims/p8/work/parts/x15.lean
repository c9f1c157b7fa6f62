set_option maxHeartbeats 2000000 in
set_option maxRecDepth 100000 in
theorem sX7_append (l : Launch) (dC : Nat → ClassId) (dI : Nat → Nat → Nat) (sz : Nat) (L : List Nat) (cid : Nat → ClassId) (K : Int → Nat) (N : Int → Int) (tW : Nat) (sK sV : Nat → Nat) (v : Int → Int → Int) (p0 : Int) (p1 : Int) (hI : xI L K N v) (q0 : ok L K p0 7) (q1 : rg p1) : Met l yX7_append (jk yX7_append cX7_append 3 none) ({ frames := 0, cells := 0, slots := 0, locals := 0 }) (va_Pc [.ref p0.toNat, .int (iI p1)] (xP (dC, dI) (xG L cid K N v) (xT cid) tW sK sV sz)) (va_Qv (fun (u : (Int → Int → Int)) => (xI L K N u) ∧ (fr K [(7, 1), (20, (-1))] u v)) (fun u t => va_P (dC, dI) vwCl (xG L cid K N u) t.heap ∧ va_K (dC, dI) vwCl (xT cid) t ∧ va_D (va_A (xG L cid K N v) sz) (xG L cid K N u)) (va_A (xG L cid K N v) sz)) 0 0 (va_A (xG L cid K N v) sz) := by
  refine Met.ofW (cc := cX7_append) (maxL := 3) (ret := none) (by decide) rfl ?_
  intro p e s m args below meth c s₁ B hml hv
  obtain ⟨rfl, ⟨hsz, hP, hK, hD0⟩, hX⟩ := hv
  have hx := B.exec
  have hb := B.bytes
  have hr := B.returns
  have hts := atoms_spec (ws := (jk yX7_append cX7_append 3 none)) B.pre
  have hj : ∀ w ∈ jw, w.before ([.ref p0.toNat, .int (iI p1)] : List Value).toArray s = true := fun w h => hts w (jm h)
  have hown : s.vm.findClass RX7 = some m.cls := findClass_of_methodNamed B.named
  subst hsz
  have hD := hD0.self (sz := s.heap.size)
  generalize hAe : (va_A (xG L cid K N v) s.heap.size) = A at hD hX ⊢
  have hA : ∀ q : Nat, s.heap.size ≤ q → A q := fun q h => by rw [← hAe]; exact Or.inr h
  have hS : va_S A s.heap s.heap [] := va_S.rf
  have hXa := hX
  have hP : va_P (dC, dI) vwCl (xG L cid K N v) s.heap := hP
  have hl := lv_entry ([.ref p0.toNat, .int (iI p1)]) (n := 3) (Nat.le_of_ble_eq_true rfl)
  rw [lg_entry_eq]
  generalize (lg_sl ([.ref p0.toNat, .int (iI p1)]) ++ List.replicate (3 - (lg_sl ([.ref p0.toNat, .int (iI p1)])).length) Slot.unset).toArray = ls at hl ⊢
  have hl : lv_has ls 3 [(0, .ref p0.toNat), (1, .int (iI p1))] := hl
  generalize hQ : MQ below (va_Qv (fun (u : (Int → Int → Int)) => (xI L K N u) ∧ (fr K [(7, 1), (20, (-1))] u v)) (fun u t => va_P (dC, dI) vwCl (xG L cid K N u) t.heap ∧ va_K (dC, dI) vwCl (xT cid) t ∧ va_D A (xG L cid K N u)) A) ([.ref p0.toNat, .int (iI p1)] : List Value).toArray s 0 0 A = Q
  suffices ST : ∀ (H : Heap) (locs : List Loc), va_P (dC, dI) vwCl (xG L cid K N v) H → va_S A s.heap H locs → W p l e ({ frames := 0, cells := 0, slots := 0, locals := 0 }) s m ([.ref p0.toNat, .int (iI p1)] : List Value).toArray below meth c H locs 0 0 Q (F0 m 0 ls []) from ST _ _ hP hS
  clear hP hS
  intro H locs hP hS
  refine lv_bipush (v := iI 24) hx hb dX7_append_0 rfl ?_
  refine lv_istore_n (lv' := [(2, .int (iI 24)), (0, .ref p0.toNat), (1, .int (iI p1))]) hx hb dX7_append_2 rfl hl (by decide) rfl (fun ls hl => ?_)
  have L3 : ∀ (n3 : Nat) (a2_3 : Int) (vc3 : Int → Int → Int) (H : Heap) (locs : List Loc) (ls : Array Slot), ((-8) ≤ a2_3 ∧ a2_3 ≤ 24) → (0 < (n3 : Int) ∧ a2_3 + 1 < (n3 : Int)) → fr K [(7, 1), (20, (-1))] vc3 v → xI L K N vc3 → va_P (dC, dI) vwCl (xG L cid K N vc3) H → va_D A (xG L cid K N vc3) → va_S A s.heap H locs → lv_has ls 3 [(2, .int (iI a2_3)), (0, .ref p0.toNat), (1, .int (iI p1))] → W p l e ({ frames := 0, cells := 0, slots := 0, locals := 0 }) s m ([.ref p0.toNat, .int (iI p1)] : List Value).toArray below meth c H locs 0 0 Q (F0 m 3 ls []) := by
    intro n3
    induction n3 with
    | zero =>
      intro a2_3 vc3 H locs ls h_1 hm3 f_2 I_3 hP hD hS hl
      exfalso; omega
    | succ n3 ih3 =>
      intro a2_3 vc3 H locs ls h_4 hm3 f_5 I_6 hP hD hS hl
      refine lv_iload_n hx hb dX7_append_3 rfl (lv_at hl 0 rfl) ?_
      refine xr_if_lt (tgt := 53) hx hb dX7_append_4 (by decide) (by omega) (fun h_7 => ?_) (fun h_7 => ?_)
      · rw [← hQ]
        exact W.vret hx hb hr (fun t ht hW => ⟨⟨vc3, rfl, ⟨I_6, (fr_tr f_5 rfl fr_rf)⟩, by rw [ht]; exact hP, va_K.moved hW.alike hK, hD⟩, hS.F ht⟩) hS.2.2 dX7_append_53
      · refine lv_aload_n hx hb dX7_append_7 rfl (lv_at hl 1 rfl) ?_
        have h_8 : 0 ≤ vc3 p0 1 ∧ vc3 p0 1 ≤ 600 := xf_7_1 I_6 q0
        refine gx_RX7_43 (y := vc3 p0 1) hx hb hj hown hK hP q0 rfl dX7_append_8 ?_
        refine xr_if_lt (tgt := 47) hx hb dX7_append_11 (by decide) (by omega) (fun h_9 => ?_) (fun h_9 => ?_)
        · exfalso; omega
        · refine lv_aload_n hx hb dX7_append_14 rfl (lv_at hl 1 rfl) ?_
          refine gx_RX7_43 (y := vc3 p0 1) hx hb hj hown hK hP q0 rfl dX7_append_15 ?_
          refine lv_sipush (v := iI 600) hx hb dX7_append_18 rfl ?_
          have J47 : ∀ (vc47 : Int → Int → Int) (H : Heap) (locs : List Loc) (ls : Array Slot), fr K [(7, 1), (20, (-1))] vc47 vc3 → xI L K N vc47 → va_P (dC, dI) vwCl (xG L cid K N vc47) H → va_D A (xG L cid K N vc47) → va_S A s.heap H locs → lv_has ls 3 [(2, .int (iI a2_3)), (0, .ref p0.toNat), (1, .int (iI p1))] → W p l e ({ frames := 0, cells := 0, slots := 0, locals := 0 }) s m ([.ref p0.toNat, .int (iI p1)] : List Value).toArray below meth c H locs 0 0 Q (F0 m 47 ls []) := by
            intro vc47 H locs ls f_10 I_11 hP hD hS hl
            refine lv_iinc (v := iI (a2_3 + (-8))) (lv' := [(2, .int (iI (a2_3 + (-8)))), (0, .ref p0.toNat), (1, .int (iI p1))]) hx hb dX7_append_47 hl (k := 0) rfl (iI_add _ _) (by decide) rfl (fun ls hl => ?_)
            refine lv_goto (tgt := 3) hx hb dX7_append_50 (by decide) ?_
            exact ih3 (a2_3 + (-8)) vc47 H locs ls (by omega) (by omega) (fr_tr f_10 rfl (fr_tr f_5 rfl fr_rf)) I_11 hP hD hS hl
          refine xr_icmp_ge (tgt := 47) hx hb dX7_append_21 (by decide) (by omega) (by omega) (fun h_12 => ?_) (fun h_12 => ?_)
          · exact J47 vc3 H locs ls fr_rf I_6 hP hD hS hl
          · refine lv_aload_n hx hb dX7_append_24 rfl (lv_at hl 1 rfl) ?_
            have h_13 : ok L K (v p0 0) 20 := xf_7_0 hI q0
            have h_14 : N (v p0 0) = 600 := xn_20 hI h_13
            refine gx_RX7_11 (y := v p0 0) hx hb hj hown hK hP q0 ((xf_7_0 I_6 q0).1) (fr_use q0 f_5 rfl) dX7_append_25 ?_
            refine lv_aload_n hx hb dX7_append_28 rfl (lv_at hl 1 rfl) ?_
            refine gx_RX7_43 (y := vc3 p0 1) hx hb hj hown hK hP q0 rfl dX7_append_29 ?_
            refine lv_iload_n hx hb dX7_append_32 rfl (lv_at hl 2 rfl) ?_
            refine lv_iload_n hx hb dX7_append_33 rfl (lv_at hl 0 rfl) ?_
            refine lv_iushr hx hb dX7_append_34 rfl ?_
            refine xr_any (fun z_15 h_16 => ?_)
            refine xr_i2b hx hb dX7_append_35 (fun z_17 h_18 => ?_)
            refine sx_20 hx hb hK hP hD hS I_6 h_13 (by omega) (by omega) (by omega) dX7_append_36 (fun v_19 H locs f_20 o_22 I_23 hP hD hS => ?_)
            refine lv_aload_n hx hb dX7_append_37 rfl (lv_at hl 1 rfl) ?_
            refine lv_dup hx hb dX7_append_38 rfl ?_
            refine gx_RX7_43 (y := vc3 p0 1) hx hb hj hown hK hP q0 (fr_use q0 f_20 rfl) dX7_append_39 ?_
            refine lv_iconst (v := iI 1) hx hb dX7_append_42 rfl ?_
            refine xr_add hx hb dX7_append_43 ?_
            refine px_RX7_43 (y := (vc3 p0 1) + 1) hx hb hj hown hK hP hD hS I_23 q0 ⟨by omega, by omega⟩ dX7_append_44 (fun v_24 H locs f_25 e_26 o_27 I_28 hP hD hS => ?_)
            exact J47 v_24 H locs ls (fr_tr f_25 rfl (fr_tr f_20 rfl fr_rf)) I_28 hP hD hS hl
  exact L3 (((24 + 1 : Int)).toNat + 1) 24 v H locs ls (by omega) (by omega) fr_rf hI hP hD hS hl
set_option maxHeartbeats 2000000 in
set_option maxRecDepth 100000 in
theorem sX8_hasRoomForSheet (l : Launch) (dC : Nat → ClassId) (dI : Nat → Nat → Nat) (sz : Nat) (L : List Nat) (cid : Nat → ClassId) (K : Int → Nat) (N : Int → Int) (tW : Nat) (sK sV : Nat → Nat) (v : Int → Int → Int) (p0 : Int) (hI : xI L K N v) (q0 : ok L K p0 8) : Met l yX8_hasRoomForSheet (jk yX8_hasRoomForSheet cX8_hasRoomForSheet 1 (some .boolean)) ({ frames := 0, cells := 0, slots := 0, locals := 0 }) (va_Pc [.ref p0.toNat] (xP (dC, dI) (xG L cid K N v) (xT cid) tW sK sV sz)) (va_Qi (fun (r : Int32) (_ : Unit) => ∃ z : Int, r = iI z ∧ (0 ≤ z ∧ z ≤ 1)) (fun _ _ => True) (va_A [] sz)) 0 0 (va_A [] sz) := by
  refine Met.ofW (cc := cX8_hasRoomForSheet) (maxL := 1) (ret := (some .boolean)) (by decide) rfl ?_
  intro p e s m args below meth c s₁ B hml hv
  obtain ⟨rfl, ⟨hsz, hP, hK, hD0⟩, hX⟩ := hv
  have hx := B.exec
  have hb := B.bytes
  have hr := B.returns
  have hts := atoms_spec (ws := (jk yX8_hasRoomForSheet cX8_hasRoomForSheet 1 (some .boolean))) B.pre
  have hj : ∀ w ∈ jw, w.before ([.ref p0.toNat] : List Value).toArray s = true := fun w h => hts w (jm h)
  have hown : s.vm.findClass RX8 = some m.cls := findClass_of_methodNamed B.named
  subst hsz
  have hDw := hD0.self (sz := s.heap.size)
  have hAA : ∀ q : Nat, s.heap.size ≤ q → va_A (xG L cid K N v) s.heap.size q := fun q h => Or.inr h
  have hAw : ∀ q, va_A [] s.heap.size q → va_A (xG L cid K N v) s.heap.size q := ja_nil va_S.rf hAA
  generalize hAe : (va_A [] s.heap.size) = A at hAw ⊢
  have hA : ∀ q : Nat, s.heap.size ≤ q → A q := fun q h => by rw [← hAe]; exact Or.inr h
  have hS : va_S A s.heap s.heap [] := va_S.rf
  have hXa := hX.nar hAw
  have hP : va_P (dC, dI) vwCl (xG L cid K N v) s.heap := hP
  have hl := lv_entry ([.ref p0.toNat]) (n := 1) (Nat.le_of_ble_eq_true rfl)
  rw [lg_entry_eq]
  generalize (lg_sl ([.ref p0.toNat]) ++ List.replicate (1 - (lg_sl ([.ref p0.toNat])).length) Slot.unset).toArray = ls at hl ⊢
  have hl : lv_has ls 1 [(0, .ref p0.toNat)] := hl
  generalize hQ : MQ below (va_Qi (fun (r : Int32) (_ : Unit) => ∃ z : Int, r = iI z ∧ (0 ≤ z ∧ z ≤ 1)) (fun _ _ => True) A) ([.ref p0.toNat] : List Value).toArray s 0 0 A = Q
  suffices ST : ∀ (H : Heap) (locs : List Loc), va_P (dC, dI) vwCl (xG L cid K N v) H → va_S A s.heap H locs → W p l e ({ frames := 0, cells := 0, slots := 0, locals := 0 }) s m ([.ref p0.toNat] : List Value).toArray below meth c H locs 0 0 Q (F0 m 0 ls []) from ST _ _ hP hS
  clear hP hS
  intro H locs hP hS
  refine lv_aload_n hx hb dX8_hasRoomForSheet_0 rfl (lv_at hl 0 rfl) ?_
  have h_1 : 0 ≤ v p0 1 ∧ v p0 1 ≤ 12 := xf_8_1 hI q0
  refine gx_RX8_33 (y := v p0 1) hx hb hj hown hK hP q0 rfl dX8_hasRoomForSheet_1 ?_
  refine lv_bipush (v := iI 12) hx hb dX8_hasRoomForSheet_4 rfl ?_
  refine xr_icmp_ge (tgt := 13) hx hb dX8_hasRoomForSheet_6 (by decide) (by omega) (by omega) (fun h_2 => ?_) (fun h_2 => ?_)
  · refine lv_iconst (v := iI 0) hx hb dX8_hasRoomForSheet_13 rfl ?_
    rw [← hQ]
    exact W.zret (v := iI 0) (ty := .boolean) hx hb hr (nb_bool (by omega) (by omega)) (fun t ht hW => ⟨⟨iI 0, (), rfl, ⟨0, rfl, by omega⟩, trivial⟩, hS.F ht⟩) hS.2.2 dX8_hasRoomForSheet_14
  · refine lv_iconst (v := iI 1) hx hb dX8_hasRoomForSheet_9 rfl ?_
    refine lv_goto (tgt := 14) hx hb dX8_hasRoomForSheet_10 (by decide) ?_
    rw [← hQ]
    exact W.zret (v := iI 1) (ty := .boolean) hx hb hr (nb_bool (by omega) (by omega)) (fun t ht hW => ⟨⟨iI 1, (), rfl, ⟨1, rfl, by omega⟩, trivial⟩, hS.F ht⟩) hS.2.2 dX8_hasRoomForSheet_14
set_option maxHeartbeats 2000000 in
set_option maxRecDepth 100000 in
theorem sX8_keep (l : Launch) (dC : Nat → ClassId) (dI : Nat → Nat → Nat) (sz : Nat) (L : List Nat) (cid : Nat → ClassId) (K : Int → Nat) (N : Int → Int) (tW : Nat) (sK sV : Nat → Nat) (v : Int → Int → Int) (p0 : Int) (p1 : Int) (hI : xI L K N v) (q0 : ok L K p0 8) (q1 : ok L K p1 9) : Met l yX8_keep (jk yX8_keep cX8_keep 2 (some .int)) ({ frames := 0, cells := 0, slots := 0, locals := 0 }) (va_Pc [.ref p0.toNat, .ref p1.toNat] (xP (dC, dI) (xG L cid K N v) (xT cid) tW sK sV sz)) (va_Qi (fun (r : Int32) (u : (Int → Int → Int)) => ∃ z : Int, r = iI z ∧ (xI L K N u) ∧ (fr K [(8, 1), (29, (-1))] u v) ∧ (rg z)) (fun u t => va_P (dC, dI) vwCl (xG L cid K N u) t.heap ∧ va_K (dC, dI) vwCl (xT cid) t ∧ va_D (va_A (xG L cid K N v) sz) (xG L cid K N u)) (va_A (xG L cid K N v) sz)) 0 0 (va_A (xG L cid K N v) sz) := by
  refine Met.ofW (cc := cX8_keep) (maxL := 2) (ret := (some .int)) (by decide) rfl ?_
  intro p e s m args below meth c s₁ B hml hv
  obtain ⟨rfl, ⟨hsz, hP, hK, hD0⟩, hX⟩ := hv
  have hx := B.exec
  have hb := B.bytes
  have hr := B.returns
  have hts := atoms_spec (ws := (jk yX8_keep cX8_keep 2 (some .int))) B.pre
  have hj : ∀ w ∈ jw, w.before ([.ref p0.toNat, .ref p1.toNat] : List Value).toArray s = true := fun w h => hts w (jm h)
  have hown : s.vm.findClass RX8 = some m.cls := findClass_of_methodNamed B.named
  subst hsz
  have hD := hD0.self (sz := s.heap.size)
  generalize hAe : (va_A (xG L cid K N v) s.heap.size) = A at hD hX ⊢
  have hA : ∀ q : Nat, s.heap.size ≤ q → A q := fun q h => by rw [← hAe]; exact Or.inr h
  have hS : va_S A s.heap s.heap [] := va_S.rf
  have hXa := hX
  have hP : va_P (dC, dI) vwCl (xG L cid K N v) s.heap := hP
  have hl := lv_entry ([.ref p0.toNat, .ref p1.toNat]) (n := 2) (Nat.le_of_ble_eq_true rfl)
  rw [lg_entry_eq]
  generalize (lg_sl ([.ref p0.toNat, .ref p1.toNat]) ++ List.replicate (2 - (lg_sl ([.ref p0.toNat, .ref p1.toNat])).length) Slot.unset).toArray = ls at hl ⊢
  have hl : lv_has ls 2 [(0, .ref p0.toNat), (1, .ref p1.toNat)] := hl
  generalize hQ : MQ below (va_Qi (fun (r : Int32) (u : (Int → Int → Int)) => ∃ z : Int, r = iI z ∧ (xI L K N u) ∧ (fr K [(8, 1), (29, (-1))] u v) ∧ (rg z)) (fun u t => va_P (dC, dI) vwCl (xG L cid K N u) t.heap ∧ va_K (dC, dI) vwCl (xT cid) t ∧ va_D A (xG L cid K N u)) A) ([.ref p0.toNat, .ref p1.toNat] : List Value).toArray s 0 0 A = Q
  suffices ST : ∀ (H : Heap) (locs : List Loc), va_P (dC, dI) vwCl (xG L cid K N v) H → va_S A s.heap H locs → W p l e ({ frames := 0, cells := 0, slots := 0, locals := 0 }) s m ([.ref p0.toNat, .ref p1.toNat] : List Value).toArray below meth c H locs 0 0 Q (F0 m 0 ls []) from ST _ _ hP hS
  clear hP hS
  intro H locs hP hS
  refine lv_aload_n hx hb dX8_keep_0 rfl (lv_at hl 0 rfl) ?_
  have h_1 : 0 ≤ v p0 1 ∧ v p0 1 ≤ 12 := xf_8_1 hI q0
  refine gx_RX8_33 (y := v p0 1) hx hb hj hown hK hP q0 rfl dX8_keep_1 ?_
  refine xr_if_lt (tgt := 16) hx hb dX8_keep_4 (by decide) (by omega) (fun h_2 => ?_) (fun h_2 => ?_)
  · exfalso; omega
  · refine lv_aload_n hx hb dX8_keep_7 rfl (lv_at hl 0 rfl) ?_
    refine gx_RX8_33 (y := v p0 1) hx hb hj hown hK hP q0 rfl dX8_keep_8 ?_
    refine lv_bipush (v := iI 12) hx hb dX8_keep_11 rfl ?_
    refine xr_icmp_lt (tgt := 18) hx hb dX8_keep_13 (by decide) (by omega) (by omega) (fun h_3 => ?_) (fun h_3 => ?_)
    · refine lv_aload_n hx hb dX8_keep_18 rfl (lv_at hl 0 rfl) ?_
      have h_4 : ok L K (v p0 0) 29 := xf_8_0 hI q0
      have h_5 : N (v p0 0) = 12 := xn_29 hI h_4
      refine gx_RX8_13 (y := v p0 0) hx hb hj hown hK hP q0 ((xf_8_0 hI q0).1) rfl dX8_keep_19 ?_
      refine lv_aload_n hx hb dX8_keep_22 rfl (lv_at hl 0 rfl) ?_
      refine gx_RX8_33 (y := v p0 1) hx hb hj hown hK hP q0 rfl dX8_keep_23 ?_
      refine lv_aload_n hx hb dX8_keep_26 rfl (lv_at hl 1 rfl) ?_
      refine sx_29 (y := p1) hx hb hK hP hD hS hI h_4 (by omega) (by omega) (by omega) q1 dX8_keep_27 (fun v_6 H locs f_7 e_8 o_9 I_10 hP hD hS => ?_)
      refine lv_aload_n hx hb dX8_keep_28 rfl (lv_at hl 0 rfl) ?_
      refine lv_dup hx hb dX8_keep_29 rfl ?_
      refine gx_RX8_33 (y := v p0 1) hx hb hj hown hK hP q0 (fr_use q0 f_7 rfl) dX8_keep_30 ?_
      refine lv_iconst (v := iI 1) hx hb dX8_keep_33 rfl ?_
      refine xr_add hx hb dX8_keep_34 ?_
      refine px_RX8_33 (y := (v p0 1) + 1) hx hb hj hown hK hP hD hS I_10 q0 ⟨by omega, by omega⟩ dX8_keep_35 (fun v_11 H locs f_12 e_13 o_14 I_15 hP hD hS => ?_)
      refine lv_aload_n hx hb dX8_keep_38 rfl (lv_at hl 0 rfl) ?_
      refine gx_RX8_33 (y := (v p0 1) + 1) hx hb hj hown hK hP q0 e_13 dX8_keep_39 ?_
      refine lv_iconst (v := iI 1) hx hb dX8_keep_42 rfl ?_
      refine xr_sub hx hb dX8_keep_43 ?_
      rw [← hQ]
      exact W.iret (v := iI (((v p0 1) + 1) - 1)) hx hb hr (fun t ht hW => ⟨⟨iI (((v p0 1) + 1) - 1), v_11, rfl, ⟨((v p0 1) + 1) - 1, rfl, I_15, (fr_tr f_12 rfl (fr_tr f_7 rfl fr_rf)), by omega⟩, by rw [ht]; exact hP, va_K.moved hW.alike hK, hD⟩, hS.F ht⟩) hS.2.2 dX8_keep_44
    · refine lv_iconst (v := iI (-1)) hx hb dX8_keep_16 rfl ?_
      rw [← hQ]
      exact W.iret (v := iI (-1)) hx hb hr (fun t ht hW => ⟨⟨iI (-1), v, rfl, ⟨(-1), rfl, hI, fr_rf, by omega⟩, by rw [ht]; exact hP, va_K.moved hW.alike hK, hD⟩, hS.F ht⟩) hS.2.2 dX8_keep_17
set_option maxHeartbeats 2000000 in
set_option maxRecDepth 100000 in
theorem sX8_put (l : Launch) (dC : Nat → ClassId) (dI : Nat → Nat → Nat) (sz : Nat) (L : List Nat) (cid : Nat → ClassId) (K : Int → Nat) (N : Int → Int) (tW : Nat) (sK sV : Nat → Nat) (v : Int → Int → Int) (p0 : Int) (p1 : Int) (p2 : Int) (p3 : Int) (hI : xI L K N v) (q0 : ok L K p0 8) (q1 : rg p1) (q2 : rg p2) (q3 : rg p3) : Met l yX8_put (jk yX8_put cX8_put 4 (some .int)) ({ frames := 0, cells := 0, slots := 0, locals := 0 }) (va_Pc [.ref p0.toNat, .int (iI p1), .int (iI p2), .int (iI p3)] (xP (dC, dI) (xG L cid K N v) (xT cid) tW sK sV sz)) (va_Qi (fun (r : Int32) (u : (Int → Int → Int)) => ∃ z : Int, r = iI z ∧ (xI L K N u) ∧ (fr K [(8, 5), (30, (-1)), (31, (-1)), (32, (-1))] u v) ∧ (rg z)) (fun u t => va_P (dC, dI) vwCl (xG L cid K N u) t.heap ∧ va_K (dC, dI) vwCl (xT cid) t ∧ va_D (va_A (xG L cid K N v) sz) (xG L cid K N u)) (va_A (xG L cid K N v) sz)) 0 0 (va_A (xG L cid K N v) sz) := by
  refine Met.ofW (cc := cX8_put) (maxL := 4) (ret := (some .int)) (by decide) rfl ?_
  intro p e s m args below meth c s₁ B hml hv
  obtain ⟨rfl, ⟨hsz, hP, hK, hD0⟩, hX⟩ := hv
  have hx := B.exec
  have hb := B.bytes
  have hr := B.returns
  have hts := atoms_spec (ws := (jk yX8_put cX8_put 4 (some .int))) B.pre
  have hj : ∀ w ∈ jw, w.before ([.ref p0.toNat, .int (iI p1), .int (iI p2), .int (iI p3)] : List Value).toArray s = true := fun w h => hts w (jm h)
  have hown : s.vm.findClass RX8 = some m.cls := findClass_of_methodNamed B.named
  subst hsz
  have hD := hD0.self (sz := s.heap.size)
  generalize hAe : (va_A (xG L cid K N v) s.heap.size) = A at hD hX ⊢
  have hA : ∀ q : Nat, s.heap.size ≤ q → A q := fun q h => by rw [← hAe]; exact Or.inr h
  have hS : va_S A s.heap s.heap [] := va_S.rf
  have hXa := hX
  have hP : va_P (dC, dI) vwCl (xG L cid K N v) s.heap := hP
  have hl := lv_entry ([.ref p0.toNat, .int (iI p1), .int (iI p2), .int (iI p3)]) (n := 4) (Nat.le_of_ble_eq_true rfl)
  rw [lg_entry_eq]
  generalize (lg_sl ([.ref p0.toNat, .int (iI p1), .int (iI p2), .int (iI p3)]) ++ List.replicate (4 - (lg_sl ([.ref p0.toNat, .int (iI p1), .int (iI p2), .int (iI p3)])).length) Slot.unset).toArray = ls at hl ⊢
  have hl : lv_has ls 4 [(0, .ref p0.toNat), (1, .int (iI p1)), (2, .int (iI p2)), (3, .int (iI p3))] := hl
  generalize hQ : MQ below (va_Qi (fun (r : Int32) (u : (Int → Int → Int)) => ∃ z : Int, r = iI z ∧ (xI L K N u) ∧ (fr K [(8, 5), (30, (-1)), (31, (-1)), (32, (-1))] u v) ∧ (rg z)) (fun u t => va_P (dC, dI) vwCl (xG L cid K N u) t.heap ∧ va_K (dC, dI) vwCl (xT cid) t ∧ va_D A (xG L cid K N u)) A) ([.ref p0.toNat, .int (iI p1), .int (iI p2), .int (iI p3)] : List Value).toArray s 0 0 A = Q
  suffices ST : ∀ (H : Heap) (locs : List Loc), va_P (dC, dI) vwCl (xG L cid K N v) H → va_S A s.heap H locs → W p l e ({ frames := 0, cells := 0, slots := 0, locals := 0 }) s m ([.ref p0.toNat, .int (iI p1), .int (iI p2), .int (iI p3)] : List Value).toArray below meth c H locs 0 0 Q (F0 m 0 ls []) from ST _ _ hP hS
  clear hP hS
  intro H locs hP hS
  refine lv_iload_n hx hb dX8_put_0 rfl (lv_at hl 1 rfl) ?_
  refine xr_if_lt (tgt := 28) hx hb dX8_put_1 (by decide) (by omega) (fun h_1 => ?_) (fun h_1 => ?_)
  · refine lv_iconst (v := iI (-1)) hx hb dX8_put_28 rfl ?_
    rw [← hQ]
    exact W.iret (v := iI (-1)) hx hb hr (fun t ht hW => ⟨⟨iI (-1), v, rfl, ⟨(-1), rfl, hI, fr_rf, by omega⟩, by rw [ht]; exact hP, va_K.moved hW.alike hK, hD⟩, hS.F ht⟩) hS.2.2 dX8_put_29
  · refine lv_iload_n hx hb dX8_put_4 rfl (lv_at hl 1 rfl) ?_
    refine lv_aload_n hx hb dX8_put_5 rfl (lv_at hl 0 rfl) ?_
    have h_2 : 0 ≤ v p0 1 ∧ v p0 1 ≤ 12 := xf_8_1 hI q0
    refine gx_RX8_33 (y := v p0 1) hx hb hj hown hK hP q0 rfl dX8_put_6 ?_
    refine xr_icmp_ge (tgt := 28) hx hb dX8_put_9 (by decide) (by omega) (by omega) (fun h_3 => ?_) (fun h_3 => ?_)
    · refine lv_iconst (v := iI (-1)) hx hb dX8_put_28 rfl ?_
      rw [← hQ]
      exact W.iret (v := iI (-1)) hx hb hr (fun t ht hW => ⟨⟨iI (-1), v, rfl, ⟨(-1), rfl, hI, fr_rf, by omega⟩, by rw [ht]; exact hP, va_K.moved hW.alike hK, hD⟩, hS.F ht⟩) hS.2.2 dX8_put_29
    · refine lv_aload_n hx hb dX8_put_12 rfl (lv_at hl 0 rfl) ?_
      have h_4 : 0 ≤ v p0 5 ∧ v p0 5 ≤ 20 := xf_8_5 hI q0
      refine gx_RX8_37 (y := v p0 5) hx hb hj hown hK hP q0 rfl dX8_put_13 ?_
      refine xr_if_lt (tgt := 28) hx hb dX8_put_16 (by decide) (by omega) (fun h_5 => ?_) (fun h_5 => ?_)
      · exfalso; omega
      · refine lv_aload_n hx hb dX8_put_19 rfl (lv_at hl 0 rfl) ?_
        refine gx_RX8_37 (y := v p0 5) hx hb hj hown hK hP q0 rfl dX8_put_20 ?_
        refine lv_bipush (v := iI 20) hx hb dX8_put_23 rfl ?_
        refine xr_icmp_lt (tgt := 30) hx hb dX8_put_25 (by decide) (by omega) (by omega) (fun h_6 => ?_) (fun h_6 => ?_)
        · refine lv_aload_n hx hb dX8_put_30 rfl (lv_at hl 0 rfl) ?_
          have h_7 : ok L K (v p0 2) 30 := xf_8_2 hI q0
          have h_8 : N (v p0 2) = 20 := xn_30 hI h_7
          refine gx_RX8_17 (y := v p0 2) hx hb hj hown hK hP q0 ((xf_8_2 hI q0).1) rfl dX8_put_31 ?_
          refine lv_aload_n hx hb dX8_put_34 rfl (lv_at hl 0 rfl) ?_
          refine gx_RX8_37 (y := v p0 5) hx hb hj hown hK hP q0 rfl dX8_put_35 ?_
          refine lv_iload_n hx hb dX8_put_38 rfl (lv_at hl 1 rfl) ?_
          refine sx_30 (y := p1) hx hb hK hP hD hS hI h_7 (by omega) (by omega) (by omega) ⟨by omega, by omega⟩ dX8_put_39 (fun v_9 H locs f_10 e_11 o_12 I_13 hP hD hS => ?_)
          refine lv_aload_n hx hb dX8_put_40 rfl (lv_at hl 0 rfl) ?_
          have h_14 : ok L K (v p0 3) 31 := xf_8_3 hI q0
          have h_15 : N (v p0 3) = 20 := xn_31 hI h_14
          refine gx_RX8_21 (y := v p0 3) hx hb hj hown hK hP q0 ((xf_8_3 I_13 q0).1) (fr_use q0 f_10 rfl) dX8_put_41 ?_
          refine lv_aload_n hx hb dX8_put_44 rfl (lv_at hl 0 rfl) ?_
          refine gx_RX8_37 (y := v p0 5) hx hb hj hown hK hP q0 (fr_use q0 f_10 rfl) dX8_put_45 ?_
          refine lv_iload_n hx hb dX8_put_48 rfl (lv_at hl 2 rfl) ?_
          refine sx_31 (y := p2) hx hb hK hP hD hS I_13 h_14 (by omega) (by omega) (by omega) ⟨by omega, by omega⟩ dX8_put_49 (fun v_16 H locs f_17 e_18 o_19 I_20 hP hD hS => ?_)
          refine lv_aload_n hx hb dX8_put_50 rfl (lv_at hl 0 rfl) ?_
          have h_21 : ok L K (v p0 4) 32 := xf_8_4 hI q0
          have h_22 : N (v p0 4) = 20 := xn_32 hI h_21
          refine gx_RX8_24 (y := v p0 4) hx hb hj hown hK hP q0 ((xf_8_4 I_20 q0).1) (((fr_use q0 f_17 rfl)).trans (fr_use q0 f_10 rfl)) dX8_put_51 ?_
          refine lv_aload_n hx hb dX8_put_54 rfl (lv_at hl 0 rfl) ?_
          refine gx_RX8_37 (y := v p0 5) hx hb hj hown hK hP q0 (((fr_use q0 f_17 rfl)).trans (fr_use q0 f_10 rfl)) dX8_put_55 ?_
          refine lv_iload_n hx hb dX8_put_58 rfl (lv_at hl 3 rfl) ?_
          refine sx_32 (y := p3) hx hb hK hP hD hS I_20 h_21 (by omega) (by omega) (by omega) ⟨by omega, by omega⟩ dX8_put_59 (fun v_23 H locs f_24 e_25 o_26 I_27 hP hD hS => ?_)
          refine lv_aload_n hx hb dX8_put_60 rfl (lv_at hl 0 rfl) ?_
          refine lv_dup hx hb dX8_put_61 rfl ?_
          refine gx_RX8_37 (y := v p0 5) hx hb hj hown hK hP q0 (((fr_use q0 f_24 rfl)).trans (((fr_use q0 f_17 rfl)).trans (fr_use q0 f_10 rfl))) dX8_put_62 ?_
          refine lv_iconst (v := iI 1) hx hb dX8_put_65 rfl ?_
          refine xr_add hx hb dX8_put_66 ?_
          refine px_RX8_37 (y := (v p0 5) + 1) hx hb hj hown hK hP hD hS I_27 q0 ⟨by omega, by omega⟩ dX8_put_67 (fun v_28 H locs f_29 e_30 o_31 I_32 hP hD hS => ?_)
          refine lv_aload_n hx hb dX8_put_70 rfl (lv_at hl 0 rfl) ?_
          refine gx_RX8_37 (y := (v p0 5) + 1) hx hb hj hown hK hP q0 e_30 dX8_put_71 ?_
          rw [← hQ]
          exact W.iret (v := iI ((v p0 5) + 1)) hx hb hr (fun t ht hW => ⟨⟨iI ((v p0 5) + 1), v_28, rfl, ⟨(v p0 5) + 1, rfl, I_32, (fr_tr f_29 rfl (fr_tr f_24 rfl (fr_tr f_17 rfl (fr_tr f_10 rfl fr_rf)))), by omega⟩, by rw [ht]; exact hP, va_K.moved hW.alike hK, hD⟩, hS.F ht⟩) hS.2.2 dX8_put_74
        · refine lv_iconst (v := iI (-1)) hx hb dX8_put_28 rfl ?_
          rw [← hQ]
          exact W.iret (v := iI (-1)) hx hb hr (fun t ht hW => ⟨⟨iI (-1), v, rfl, ⟨(-1), rfl, hI, fr_rf, by omega⟩, by rw [ht]; exact hP, va_K.moved hW.alike hK, hD⟩, hS.F ht⟩) hS.2.2 dX8_put_29
set_option maxHeartbeats 2000000 in
set_option maxRecDepth 100000 in
theorem sX8_name (l : Launch) (dC : Nat → ClassId) (dI : Nat → Nat → Nat) (sz : Nat) (L : List Nat) (cid : Nat → ClassId) (K : Int → Nat) (N : Int → Int) (tW : Nat) (sK sV : Nat → Nat) (v : Int → Int → Int) (p0 : Int) (p1 : Int) (p2 : Int) (hI : xI L K N v) (q0 : ok L K p0 8) (q1 : rg p1) (q2 : rg p2) : Met l yX8_name (jk yX8_name cX8_name 3 none) ({ frames := 0, cells := 0, slots := 0, locals := 0 }) (va_Pc [.ref p0.toNat, .int (iI p1), .int (iI p2)] (xP (dC, dI) (xG L cid K N v) (xT cid) tW sK sV sz)) (va_Qv (fun (u : (Int → Int → Int)) => (xI L K N u) ∧ (fr K [(33, (-1))] u v)) (fun u t => va_P (dC, dI) vwCl (xG L cid K N u) t.heap ∧ va_K (dC, dI) vwCl (xT cid) t ∧ va_D (va_A (xG L cid K N v) sz) (xG L cid K N u)) (va_A (xG L cid K N v) sz)) 0 0 (va_A (xG L cid K N v) sz) := by
  refine Met.ofW (cc := cX8_name) (maxL := 3) (ret := none) (by decide) rfl ?_
  intro p e s m args below meth c s₁ B hml hv
  obtain ⟨rfl, ⟨hsz, hP, hK, hD0⟩, hX⟩ := hv
  have hx := B.exec
  have hb := B.bytes
  have hr := B.returns
  have hts := atoms_spec (ws := (jk yX8_name cX8_name 3 none)) B.pre
  have hj : ∀ w ∈ jw, w.before ([.ref p0.toNat, .int (iI p1), .int (iI p2)] : List Value).toArray s = true := fun w h => hts w (jm h)
  have hown : s.vm.findClass RX8 = some m.cls := findClass_of_methodNamed B.named
  subst hsz
  have hD := hD0.self (sz := s.heap.size)
  generalize hAe : (va_A (xG L cid K N v) s.heap.size) = A at hD hX ⊢
  have hA : ∀ q : Nat, s.heap.size ≤ q → A q := fun q h => by rw [← hAe]; exact Or.inr h
  have hS : va_S A s.heap s.heap [] := va_S.rf
  have hXa := hX
  have hP : va_P (dC, dI) vwCl (xG L cid K N v) s.heap := hP
  have hl := lv_entry ([.ref p0.toNat, .int (iI p1), .int (iI p2)]) (n := 3) (Nat.le_of_ble_eq_true rfl)
  rw [lg_entry_eq]
  generalize (lg_sl ([.ref p0.toNat, .int (iI p1), .int (iI p2)]) ++ List.replicate (3 - (lg_sl ([.ref p0.toNat, .int (iI p1), .int (iI p2)])).length) Slot.unset).toArray = ls at hl ⊢
  have hl : lv_has ls 3 [(0, .ref p0.toNat), (1, .int (iI p1)), (2, .int (iI p2))] := hl
  generalize hQ : MQ below (va_Qv (fun (u : (Int → Int → Int)) => (xI L K N u) ∧ (fr K [(33, (-1))] u v)) (fun u t => va_P (dC, dI) vwCl (xG L cid K N u) t.heap ∧ va_K (dC, dI) vwCl (xT cid) t ∧ va_D A (xG L cid K N u)) A) ([.ref p0.toNat, .int (iI p1), .int (iI p2)] : List Value).toArray s 0 0 A = Q
  suffices ST : ∀ (H : Heap) (locs : List Loc), va_P (dC, dI) vwCl (xG L cid K N v) H → va_S A s.heap H locs → W p l e ({ frames := 0, cells := 0, slots := 0, locals := 0 }) s m ([.ref p0.toNat, .int (iI p1), .int (iI p2)] : List Value).toArray below meth c H locs 0 0 Q (F0 m 0 ls []) from ST _ _ hP hS
  clear hP hS
  intro H locs hP hS
  refine lv_iload_n hx hb dX8_name_0 rfl (lv_at hl 1 rfl) ?_
  refine xr_if_lt (tgt := 17) hx hb dX8_name_1 (by decide) (by omega) (fun h_1 => ?_) (fun h_1 => ?_)
  · rw [← hQ]
    exact W.vret hx hb hr (fun t ht hW => ⟨⟨v, rfl, ⟨hI, fr_rf⟩, by rw [ht]; exact hP, va_K.moved hW.alike hK, hD⟩, hS.F ht⟩) hS.2.2 dX8_name_17
  · refine lv_iload_n hx hb dX8_name_4 rfl (lv_at hl 1 rfl) ?_
    refine lv_bipush (v := iI 9) hx hb dX8_name_5 rfl ?_
    refine xr_icmp_ge (tgt := 17) hx hb dX8_name_7 (by decide) (by omega) (by omega) (fun h_2 => ?_) (fun h_2 => ?_)
    · rw [← hQ]
      exact W.vret hx hb hr (fun t ht hW => ⟨⟨v, rfl, ⟨hI, fr_rf⟩, by rw [ht]; exact hP, va_K.moved hW.alike hK, hD⟩, hS.F ht⟩) hS.2.2 dX8_name_17
    · refine lv_aload_n hx hb dX8_name_10 rfl (lv_at hl 0 rfl) ?_
      have h_3 : ok L K (v p0 6) 33 := xf_8_6 hI q0
      have h_4 : N (v p0 6) = 9 := xn_33 hI h_3
      refine gx_RX8_27 (y := v p0 6) hx hb hj hown hK hP q0 ((xf_8_6 hI q0).1) rfl dX8_name_11 ?_
      refine lv_iload_n hx hb dX8_name_14 rfl (lv_at hl 1 rfl) ?_
      refine lv_iload_n hx hb dX8_name_15 rfl (lv_at hl 2 rfl) ?_
      refine sx_33 (y := p2) hx hb hK hP hD hS hI h_3 (by omega) (by omega) (by omega) ⟨by omega, by omega⟩ dX8_name_16 (fun v_5 H locs f_6 e_7 o_8 I_9 hP hD hS => ?_)
      rw [← hQ]
      exact W.vret hx hb hr (fun t ht hW => ⟨⟨v_5, rfl, ⟨I_9, (fr_tr f_6 rfl fr_rf)⟩, by rw [ht]; exact hP, va_K.moved hW.alike hK, hD⟩, hS.F ht⟩) hS.2.2 dX8_name_17
set_option maxHeartbeats 2000000 in
set_option maxRecDepth 100000 in
theorem sX9_sortOf (l : Launch) (dC : Nat → ClassId) (dI : Nat → Nat → Nat) (sz : Nat) (p1 : Int) (q1 : rg p1) : Met l yX9_sortOf (jk yX9_sortOf cX9_sortOf 3 (some .int)) ({ frames := 0, cells := 0, slots := 0, locals := 0 }) (va_Pc [.int (iI p1)] (fun U => U.heap.size = sz)) (va_Qi (fun (r : Int32) (_ : Unit) => ∃ z : Int, r = iI z ∧ (rg z)) (fun _ _ => True) (va_A [] sz)) 0 0 (va_A [] sz) := by
  refine Met.ofW (cc := cX9_sortOf) (maxL := 3) (ret := (some .int)) (by decide) rfl ?_
  intro p e s m args below meth c s₁ B hml hv
  obtain ⟨rfl, hsz⟩ := hv
  have hx := B.exec
  have hb := B.bytes
  have hr := B.returns
  have hts := atoms_spec (ws := (jk yX9_sortOf cX9_sortOf 3 (some .int))) B.pre
  have hj : ∀ w ∈ jw, w.before ([.int (iI p1)] : List Value).toArray s = true := fun w h => hts w (jm h)
  have hown : s.vm.findClass RX9 = some m.cls := findClass_of_methodNamed B.named
  subst hsz
  have hP : va_P (dC, dI) vwCl [] s.heap := fun k q h => by simp at h
  generalize hAe : (va_A [] s.heap.size) = A
  have hA : ∀ q : Nat, s.heap.size ≤ q → A q := fun q h => by rw [← hAe]; exact Or.inr h
  have hS : va_S A s.heap s.heap [] := va_S.rf
  have hl := lv_entry ([.int (iI p1)]) (n := 3) (Nat.le_of_ble_eq_true rfl)
  rw [lg_entry_eq]
  generalize (lg_sl ([.int (iI p1)]) ++ List.replicate (3 - (lg_sl ([.int (iI p1)])).length) Slot.unset).toArray = ls at hl ⊢
  have hl : lv_has ls 3 [(0, .int (iI p1))] := hl
  generalize hQ : MQ below (va_Qi (fun (r : Int32) (_ : Unit) => ∃ z : Int, r = iI z ∧ (rg z)) (fun _ _ => True) A) ([.int (iI p1)] : List Value).toArray s 0 0 A = Q
  suffices ST : ∀ (H : Heap) (locs : List Loc), va_P (dC, dI) vwCl [] H → va_S A s.heap H locs → W p l e ({ frames := 0, cells := 0, slots := 0, locals := 0 }) s m ([.int (iI p1)] : List Value).toArray below meth c H locs 0 0 Q (F0 m 0 ls []) from ST _ _ hP hS
  clear hP hS
  intro H locs hP hS
  refine lv_iload_n hx hb dX9_sortOf_0 rfl (lv_at hl 0 rfl) ?_
  have J11 : ∀ (H : Heap) (locs : List Loc) (ls : Array Slot), va_P (dC, dI) vwCl [] H → va_S A s.heap H locs → lv_has ls 3 [(0, .int (iI p1))] → W p l e ({ frames := 0, cells := 0, slots := 0, locals := 0 }) s m ([.int (iI p1)] : List Value).toArray below meth c H locs 0 0 Q (F0 m 11 ls []) := by
    intro H locs ls hP hS hl
    refine lv_iload_n hx hb dX9_sortOf_11 rfl (lv_at hl 0 rfl) ?_
    refine lv_bipush (v := iI 10) hx hb dX9_sortOf_12 rfl ?_
    refine xr_divA hx hb dX9_sortOf_14 (by omega) (by omega) (fun z_1 h_2 => ?_)
    refine lv_istore_n (lv' := [(1, .int (iI z_1)), (0, .int (iI p1))]) hx hb dX9_sortOf_15 rfl hl (by decide) rfl (fun ls hl => ?_)
    refine lv_iload_n hx hb dX9_sortOf_16 rfl (lv_at hl 1 rfl) ?_
    refine lv_bipush (v := iI 10) hx hb dX9_sortOf_17 rfl ?_
    refine xr_remA hx hb dX9_sortOf_19 (by omega) (by omega) (fun z_3 h_4 => ?_)
    refine lv_istore_n (lv' := [(2, .int (iI z_3)), (1, .int (iI z_1)), (0, .int (iI p1))]) hx hb dX9_sortOf_20 rfl hl (by decide) rfl (fun ls hl => ?_)
    refine lv_iload_n hx hb dX9_sortOf_21 rfl (lv_at hl 2 rfl) ?_
    refine lv_bipush (v := iI 10) hx hb dX9_sortOf_22 rfl ?_
    refine xr_icmp_lt (tgt := 49) hx hb dX9_sortOf_24 (by decide) (by omega) (by omega) (fun h_5 => ?_) (fun h_5 => ?_)
    · refine lv_iconst (v := iI (-1)) hx hb dX9_sortOf_49 rfl ?_
      rw [← hQ]
      exact W.iret (v := iI (-1)) hx hb hr (fun t ht hW => ⟨⟨iI (-1), (), rfl, ⟨(-1), rfl, by omega⟩, trivial⟩, hS.F ht⟩) hS.2.2 dX9_sortOf_50
    · refine lv_iload_n hx hb dX9_sortOf_27 rfl (lv_at hl 1 rfl) ?_
      refine lv_iconst (v := iI 3) hx hb dX9_sortOf_28 rfl ?_
      refine xr_icmp_gt (tgt := 49) hx hb dX9_sortOf_29 (by decide) (by omega) (by omega) (fun h_6 => ?_) (fun h_6 => ?_)
      · refine lv_iconst (v := iI (-1)) hx hb dX9_sortOf_49 rfl ?_
        rw [← hQ]
        exact W.iret (v := iI (-1)) hx hb hr (fun t ht hW => ⟨⟨iI (-1), (), rfl, ⟨(-1), rfl, by omega⟩, trivial⟩, hS.F ht⟩) hS.2.2 dX9_sortOf_50
      · refine lv_iload_n hx hb dX9_sortOf_32 rfl (lv_at hl 0 rfl) ?_
        refine lv_iconst (v := iI 2) hx hb dX9_sortOf_33 rfl ?_
        refine xr_icmp_gt (tgt := 49) hx hb dX9_sortOf_34 (by decide) (by omega) (by omega) (fun h_7 => ?_) (fun h_7 => ?_)
        · refine lv_iconst (v := iI (-1)) hx hb dX9_sortOf_49 rfl ?_
          rw [← hQ]
          exact W.iret (v := iI (-1)) hx hb hr (fun t ht hW => ⟨⟨iI (-1), (), rfl, ⟨(-1), rfl, by omega⟩, trivial⟩, hS.F ht⟩) hS.2.2 dX9_sortOf_50
        · refine lv_iconst (v := iI 5) hx hb dX9_sortOf_37 rfl ?_
          refine lv_iconst (v := iI 3) hx hb dX9_sortOf_38 rfl ?_
          refine lv_iload_n hx hb dX9_sortOf_39 rfl (lv_at hl 1 rfl) ?_
          refine lv_iconst (v := iI 1) hx hb dX9_sortOf_40 rfl ?_
          refine xr_sub hx hb dX9_sortOf_41 ?_
          refine xr_kept (fun z_8 h_9 h_10 => ?_)
          refine xr_mul hx hb dX9_sortOf_42 ?_
          refine xr_kept (fun z_11 h_12 h_13 => ?_)
          clear h_13
          refine xr_add hx hb dX9_sortOf_43 ?_
          refine xr_kept (fun z_14 h_15 h_16 => ?_)
          refine lv_iload_n hx hb dX9_sortOf_44 rfl (lv_at hl 0 rfl) ?_
          refine xr_add hx hb dX9_sortOf_45 ?_
          refine xr_kept (fun z_17 h_18 h_19 => ?_)
          refine lv_goto (tgt := 50) hx hb dX9_sortOf_46 (by decide) ?_
          rw [← hQ]
          exact W.iret (v := iI z_17) hx hb hr (fun t ht hW => ⟨⟨iI z_17, (), rfl, ⟨z_17, rfl, by omega⟩, trivial⟩, hS.F ht⟩) hS.2.2 dX9_sortOf_50
  refine xr_if_lt (tgt := 11) hx hb dX9_sortOf_1 (by decide) (by omega) (fun h_20 => ?_) (fun h_20 => ?_)
  · exact J11 H locs ls hP hS hl
  · refine lv_iload_n hx hb dX9_sortOf_4 rfl (lv_at hl 0 rfl) ?_
    refine lv_iconst (v := iI 4) hx hb dX9_sortOf_5 rfl ?_
    refine xr_icmp_gt (tgt := 11) hx hb dX9_sortOf_6 (by decide) (by omega) (by omega) (fun h_21 => ?_) (fun h_21 => ?_)
    · exact J11 H locs ls hP hS hl
    · refine lv_iload_n hx hb dX9_sortOf_9 rfl (lv_at hl 0 rfl) ?_
      rw [← hQ]
      exact W.iret (v := iI p1) hx hb hr (fun t ht hW => ⟨⟨iI p1, (), rfl, ⟨p1, rfl, by omega⟩, trivial⟩, hS.F ht⟩) hS.2.2 dX9_sortOf_10
