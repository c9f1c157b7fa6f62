set_option maxHeartbeats 2000000 in
set_option maxRecDepth 100000 in
theorem sX12_later (l : Launch) (dC : Nat → ClassId) (dI : Nat → Nat → Nat) (sz : Nat) (L : List Nat) (cid : Nat → ClassId) (K : Int → Nat) (N : Int → Int) (tW : Nat) (sK sV : Nat → Nat) (v : Int → Int → Int) (p0 : Int) (p1 : Int) (hI : xI L K N v) (q0 : ok L K p0 12) (q1 : rg p1) : Met l yX12_later (jk yX12_later cX12_later 2 (some .boolean)) ({ frames := 3, cells := 0, slots := 0, locals := 65 }) (va_Pc [.ref p0.toNat, .int (iI p1)] (xP (dC, dI) (xG L cid K N v) (xT cid) tW sK sV sz)) (va_Qi (fun (r : Int32) (u : (Int → Int → Int)) => ∃ z : Int, r = iI z ∧ (xI L K N u) ∧ (fr K [(0, 11)] u v) ∧ (0 ≤ z ∧ z ≤ 1)) (fun u t => va_P (dC, dI) vwCl (xG L cid K N u) t.heap ∧ va_K (dC, dI) vwCl (xT cid) t ∧ va_D (va_A (xG L cid K N v) sz) (xG L cid K N u)) (va_A (xG L cid K N v) sz)) 0 0 (va_A (xG L cid K N v) sz) := by
  refine Met.ofW (cc := cX12_later) (maxL := 2) (ret := (some .boolean)) (by decide) rfl ?_
  intro p e s m args below meth c s₁ B hml hv
  obtain ⟨rfl, ⟨hsz, hP, hK, hD0⟩, hX⟩ := hv
  have hx := B.exec
  have hb := B.bytes
  have hr := B.returns
  have hts := atoms_spec (ws := (jk yX12_later cX12_later 2 (some .boolean))) B.pre
  have hj : ∀ w ∈ jw, w.before ([.ref p0.toNat, .int (iI p1)] : List Value).toArray s = true := fun w h => hts w (jm h)
  have hown : s.vm.findClass RX12 = some m.cls := findClass_of_methodNamed B.named
  subst hsz
  have hD := hD0.self (sz := s.heap.size)
  generalize hAe : (va_A (xG L cid K N v) s.heap.size) = A at hD hX ⊢
  have hA : ∀ q : Nat, s.heap.size ≤ q → A q := fun q h => by rw [← hAe]; exact Or.inr h
  have hS : va_S A s.heap s.heap [] := va_S.rf
  have hXa := hX
  have hP : va_P (dC, dI) vwCl (xG L cid K N v) s.heap := hP
  have hl := lv_entry ([.ref p0.toNat, .int (iI p1)]) (n := 2) (Nat.le_of_ble_eq_true rfl)
  rw [lg_entry_eq]
  generalize (lg_sl ([.ref p0.toNat, .int (iI p1)]) ++ List.replicate (2 - (lg_sl ([.ref p0.toNat, .int (iI p1)])).length) Slot.unset).toArray = ls at hl ⊢
  have hl : lv_has ls 2 [(0, .ref p0.toNat), (1, .int (iI p1))] := hl
  generalize hQ : MQ below (va_Qi (fun (r : Int32) (u : (Int → Int → Int)) => ∃ z : Int, r = iI z ∧ (xI L K N u) ∧ (fr K [(0, 11)] u v) ∧ (0 ≤ z ∧ z ≤ 1)) (fun u t => va_P (dC, dI) vwCl (xG L cid K N u) t.heap ∧ va_K (dC, dI) vwCl (xT cid) t ∧ va_D A (xG L cid K N u)) A) ([.ref p0.toNat, .int (iI p1)] : List Value).toArray s 0 0 A = Q
  suffices ST : ∀ (H : Heap) (locs : List Loc), va_P (dC, dI) vwCl (xG L cid K N v) H → va_S A s.heap H locs → W p l e ({ frames := 3, cells := 0, slots := 0, locals := 65 }) s m ([.ref p0.toNat, .int (iI p1)] : List Value).toArray below meth c H locs 0 0 Q (F0 m 0 ls []) from ST _ _ hP hS
  clear hP hS
  intro H locs hP hS
  refine lv_aload_n hx hb dX12_later_0 rfl (lv_at hl 0 rfl) ?_
  refine lv_iload_n hx hb dX12_later_1 rfl (lv_at hl 1 rfl) ?_
  refine lv_iconst (v := iI 2) hx hb dX12_later_2 rfl ?_
  refine jcg_i (va_runV (As := [.int (iI p1), .int (iI 2)]) (rest := []) ⟨hx, hb, hml, hown, hts⟩ (sX12_sendAway l dC dI _ L cid K N tW sK sV v p0 p1 2 hI q0 (by omega) (by omega)) (cwV 2 hts (jgoodV m_1035 m_1036 m_1037 m_873 m_1038) rfl rfl rfl (by decide +kernel) ⟨(Nat.le_of_ble_eq_true rfl), (Nat.le_of_ble_eq_true rfl)⟩) ⟨xP_blind, xrecv hK hP q0 rfl rfl, fun U hU hW => ⟨rfl, xP_of hU hW hP hK hD hX hS (fun _ h => h) hA⟩⟩ rfl rfl hl.1 rfl (lv_room (Nat.le_of_ble_eq_true rfl)) dX12_later_3 ⟨(Nat.le_of_ble_eq_true rfl), (Nat.le_of_ble_eq_true rfl)⟩) hD hS hA (fun r_1 v_5 H locs w_2 hP hK hD hS => ?_)
  obtain ⟨z_3, rfl, I_7, f_6, h_4⟩ := w_2
  have hP : va_P (dC, dI) vwCl (xG L cid K N v_5) H := hP
  have hD : va_D A (xG L cid K N v_5) := hD
  rw [← hQ]
  exact W.zret (v := iI z_3) (ty := .boolean) hx hb hr (nb_bool (by omega) (by omega)) (fun t ht hW => ⟨⟨iI z_3, v_5, rfl, ⟨z_3, rfl, I_7, (fr_tr f_6 rfl fr_rf), by omega⟩, by rw [ht]; exact hP, va_K.moved hW.alike hK, hD⟩, hS.F ht⟩) hS.2.2 dX12_later_6
set_option maxHeartbeats 2000000 in
set_option maxRecDepth 100000 in
theorem sX12_isStruck (l : Launch) (dC : Nat → ClassId) (dI : Nat → Nat → Nat) (sz : Nat) (L : List Nat) (cid : Nat → ClassId) (K : Int → Nat) (N : Int → Int) (tW : Nat) (sK sV : Nat → Nat) (v : Int → Int → Int) (p0 : Int) (p1 : Int) (hI : xI L K N v) (q0 : ok L K p0 12) (q1 : ok L K p1 0) : Met l yX12_isStruck (jk yX12_isStruck cX12_isStruck 2 (some .boolean)) ({ frames := 0, cells := 0, slots := 0, locals := 0 }) (va_Pc [.ref p0.toNat, .ref p1.toNat] (xP (dC, dI) (xG L cid K N v) (xT cid) tW sK sV sz)) (va_Qi (fun (r : Int32) (_ : Unit) => ∃ z : Int, r = iI z ∧ (0 ≤ z ∧ z ≤ 1)) (fun _ _ => True) (va_A [] sz)) 0 0 (va_A [] sz) := by
  refine Met.ofW (cc := cX12_isStruck) (maxL := 2) (ret := (some .boolean)) (by decide) rfl ?_
  intro p e s m args below meth c s₁ B hml hv
  obtain ⟨rfl, ⟨hsz, hP, hK, hD0⟩, hX⟩ := hv
  have hx := B.exec
  have hb := B.bytes
  have hr := B.returns
  have hts := atoms_spec (ws := (jk yX12_isStruck cX12_isStruck 2 (some .boolean))) B.pre
  have hj : ∀ w ∈ jw, w.before ([.ref p0.toNat, .ref p1.toNat] : List Value).toArray s = true := fun w h => hts w (jm h)
  have hown : s.vm.findClass RX12 = some m.cls := findClass_of_methodNamed B.named
  subst hsz
  have hDw := hD0.self (sz := s.heap.size)
  have hAA : ∀ q : Nat, s.heap.size ≤ q → va_A (xG L cid K N v) s.heap.size q := fun q h => Or.inr h
  have hAw : ∀ q, va_A [] s.heap.size q → va_A (xG L cid K N v) s.heap.size q := ja_nil va_S.rf hAA
  generalize hAe : (va_A [] s.heap.size) = A at hAw ⊢
  have hA : ∀ q : Nat, s.heap.size ≤ q → A q := fun q h => by rw [← hAe]; exact Or.inr h
  have hS : va_S A s.heap s.heap [] := va_S.rf
  have hXa := hX.nar hAw
  have hP : va_P (dC, dI) vwCl (xG L cid K N v) s.heap := hP
  have hl := lv_entry ([.ref p0.toNat, .ref p1.toNat]) (n := 2) (Nat.le_of_ble_eq_true rfl)
  rw [lg_entry_eq]
  generalize (lg_sl ([.ref p0.toNat, .ref p1.toNat]) ++ List.replicate (2 - (lg_sl ([.ref p0.toNat, .ref p1.toNat])).length) Slot.unset).toArray = ls at hl ⊢
  have hl : lv_has ls 2 [(0, .ref p0.toNat), (1, .ref p1.toNat)] := hl
  generalize hQ : MQ below (va_Qi (fun (r : Int32) (_ : Unit) => ∃ z : Int, r = iI z ∧ (0 ≤ z ∧ z ≤ 1)) (fun _ _ => True) A) ([.ref p0.toNat, .ref p1.toNat] : List Value).toArray s 0 0 A = Q
  suffices ST : ∀ (H : Heap) (locs : List Loc), va_P (dC, dI) vwCl (xG L cid K N v) H → va_S A s.heap H locs → W p l e ({ frames := 0, cells := 0, slots := 0, locals := 0 }) s m ([.ref p0.toNat, .ref p1.toNat] : List Value).toArray below meth c H locs 0 0 Q (F0 m 0 ls []) from ST _ _ hP hS
  clear hP hS
  intro H locs hP hS
  refine lv_aload_n hx hb dX12_isStruck_0 rfl (lv_at hl 1 rfl) ?_
  have h_1 : (-2147483648) ≤ v p1 11 ∧ v p1 11 ≤ 2147483647 := xf_0_11 hI q1
  refine gx_RX12_253 (y := v p1 11) hx hb hj hown hK hP q1 rfl dX12_isStruck_1 ?_
  refine lv_iconst (v := iI 1) hx hb dX12_isStruck_4 rfl ?_
  refine xr_icmp_ne (tgt := 12) hx hb dX12_isStruck_5 (by decide) (by omega) (by omega) (fun h_2 => ?_) (fun h_2 => ?_)
  · refine lv_iconst (v := iI 0) hx hb dX12_isStruck_12 rfl ?_
    rw [← hQ]
    exact W.zret (v := iI 0) (ty := .boolean) hx hb hr (nb_bool (by omega) (by omega)) (fun t ht hW => ⟨⟨iI 0, (), rfl, ⟨0, rfl, by omega⟩, trivial⟩, hS.F ht⟩) hS.2.2 dX12_isStruck_13
  · refine lv_iconst (v := iI 1) hx hb dX12_isStruck_8 rfl ?_
    refine lv_goto (tgt := 13) hx hb dX12_isStruck_9 (by decide) ?_
    rw [← hQ]
    exact W.zret (v := iI 1) (ty := .boolean) hx hb hr (nb_bool (by omega) (by omega)) (fun t ht hW => ⟨⟨iI 1, (), rfl, ⟨1, rfl, by omega⟩, trivial⟩, hS.F ht⟩) hS.2.2 dX12_isStruck_13
set_option maxHeartbeats 2000000 in
set_option maxRecDepth 100000 in
theorem sX12_standing (l : Launch) (dC : Nat → ClassId) (dI : Nat → Nat → Nat) (sz : Nat) (L : List Nat) (cid : Nat → ClassId) (K : Int → Nat) (N : Int → Int) (tW : Nat) (sK sV : Nat → Nat) (v : Int → Int → Int) (p0 : Int) (p1 : Int) (hI : xI L K N v) (q0 : ok L K p0 12) (q1 : ok L K p1 0) : Met l yX12_standing (jk yX12_standing cX12_standing 2 (some .int)) ({ frames := 2, cells := 0, slots := 0, locals := 42 }) (va_Pc [.ref p0.toNat, .ref p1.toNat] (xP (dC, dI) (xG L cid K N v) (xT cid) tW sK sV sz)) (va_Qi (fun (r : Int32) (_ : Unit) => ∃ z : Int, r = iI z ∧ (rg z)) (fun _ _ => True) (va_A [] sz)) 0 0 (va_A [] sz) := by
  refine Met.ofW (cc := cX12_standing) (maxL := 2) (ret := (some .int)) (by decide) rfl ?_
  intro p e s m args below meth c s₁ B hml hv
  obtain ⟨rfl, ⟨hsz, hP, hK, hD0⟩, hX⟩ := hv
  have hx := B.exec
  have hb := B.bytes
  have hr := B.returns
  have hts := atoms_spec (ws := (jk yX12_standing cX12_standing 2 (some .int))) B.pre
  have hj : ∀ w ∈ jw, w.before ([.ref p0.toNat, .ref p1.toNat] : List Value).toArray s = true := fun w h => hts w (jm h)
  have hown : s.vm.findClass RX12 = some m.cls := findClass_of_methodNamed B.named
  subst hsz
  have hDw := hD0.self (sz := s.heap.size)
  have hAA : ∀ q : Nat, s.heap.size ≤ q → va_A (xG L cid K N v) s.heap.size q := fun q h => Or.inr h
  have hAw : ∀ q, va_A [] s.heap.size q → va_A (xG L cid K N v) s.heap.size q := ja_nil va_S.rf hAA
  generalize hAe : (va_A [] s.heap.size) = A at hAw ⊢
  have hA : ∀ q : Nat, s.heap.size ≤ q → A q := fun q h => by rw [← hAe]; exact Or.inr h
  have hS : va_S A s.heap s.heap [] := va_S.rf
  have hXa := hX.nar hAw
  have hP : va_P (dC, dI) vwCl (xG L cid K N v) s.heap := hP
  have hl := lv_entry ([.ref p0.toNat, .ref p1.toNat]) (n := 2) (Nat.le_of_ble_eq_true rfl)
  rw [lg_entry_eq]
  generalize (lg_sl ([.ref p0.toNat, .ref p1.toNat]) ++ List.replicate (2 - (lg_sl ([.ref p0.toNat, .ref p1.toNat])).length) Slot.unset).toArray = ls at hl ⊢
  have hl : lv_has ls 2 [(0, .ref p0.toNat), (1, .ref p1.toNat)] := hl
  generalize hQ : MQ below (va_Qi (fun (r : Int32) (_ : Unit) => ∃ z : Int, r = iI z ∧ (rg z)) (fun _ _ => True) A) ([.ref p0.toNat, .ref p1.toNat] : List Value).toArray s 0 0 A = Q
  suffices ST : ∀ (H : Heap) (locs : List Loc), va_P (dC, dI) vwCl (xG L cid K N v) H → va_S A s.heap H locs → W p l e ({ frames := 2, cells := 0, slots := 0, locals := 42 }) s m ([.ref p0.toNat, .ref p1.toNat] : List Value).toArray below meth c H locs 0 0 Q (F0 m 0 ls []) from ST _ _ hP hS
  clear hP hS
  intro H locs hP hS
  refine lv_aload_n hx hb dX12_standing_0 rfl (lv_at hl 1 rfl) ?_
  have h_1 : (-2147483648) ≤ v p1 12 ∧ v p1 12 ≤ 2147483647 := xf_0_12 hI q1
  refine gx_RX12_247 (y := v p1 12) hx hb hj hown hK hP q1 rfl dX12_standing_1 ?_
  refine lv_iconst (v := iI (-1)) hx hb dX12_standing_4 rfl ?_
  refine xr_icmp_eq (tgt := 13) hx hb dX12_standing_5 (by decide) (by omega) (by omega) (fun h_2 => ?_) (fun h_2 => ?_)
  · refine lv_aload_n hx hb dX12_standing_13 rfl (lv_at hl 0 rfl) ?_
    refine lv_aload_n hx hb dX12_standing_14 rfl (lv_at hl 1 rfl) ?_
    refine jc_i (va_runV (As := [.ref p1.toNat]) (rest := []) ⟨hx, hb, hml, hown, hts⟩ (sX12_isLater l dC dI _ L cid K N tW sK sV v p0 p1 hI q0 q1) (cwV 1 hts (jgoodV m_1031 m_1032 m_1033 m_873 m_1034) rfl rfl rfl (by decide +kernel) ⟨(Nat.le_of_ble_eq_true rfl), (Nat.le_of_ble_eq_true rfl)⟩) ⟨xP_blind, xrecv hK hP q0 rfl rfl, fun U hU hW => ⟨rfl, xP_of hU hW hP hK hDw hX hS hAw hAA⟩⟩ rfl rfl hl.1 rfl (lv_room (Nat.le_of_ble_eq_true rfl)) dX12_standing_15 ⟨(Nat.le_of_ble_eq_true rfl), (Nat.le_of_ble_eq_true rfl)⟩) hP hS hA (fun r_3 H locs w_4 hP hS => ?_)
    obtain ⟨z_5, rfl, h_6⟩ := w_4
    refine xr_if_eq (tgt := 26) hx hb dX12_standing_18 (by decide) (by omega) (fun h_7 => ?_) (fun h_7 => ?_)
    · refine lv_aload_n hx hb dX12_standing_26 rfl (lv_at hl 1 rfl) ?_
      have h_8 : (-2147483648) ≤ v p1 6 ∧ v p1 6 ≤ 2147483647 := xf_0_6 hI q1
      refine gx_RX12_220 (y := v p1 6) hx hb hj hown hK hP q1 rfl dX12_standing_27 ?_
      rw [← hQ]
      exact W.iret (v := iI (v p1 6)) hx hb hr (fun t ht hW => ⟨⟨iI (v p1 6), (), rfl, ⟨v p1 6, rfl, by omega⟩, trivial⟩, hS.F ht⟩) hS.2.2 dX12_standing_30
    · refine lv_bipush (v := iI 6) hx hb dX12_standing_21 rfl ?_
      refine lv_goto (tgt := 30) hx hb dX12_standing_23 (by decide) ?_
      rw [← hQ]
      exact W.iret (v := iI 6) hx hb hr (fun t ht hW => ⟨⟨iI 6, (), rfl, ⟨6, rfl, by omega⟩, trivial⟩, hS.F ht⟩) hS.2.2 dX12_standing_30
  · refine lv_aload_n hx hb dX12_standing_8 rfl (lv_at hl 1 rfl) ?_
    refine gx_RX12_247 (y := v p1 12) hx hb hj hown hK hP q1 rfl dX12_standing_9 ?_
    rw [← hQ]
    exact W.iret (v := iI (v p1 12)) hx hb hr (fun t ht hW => ⟨⟨iI (v p1 12), (), rfl, ⟨v p1 12, rfl, by omega⟩, trivial⟩, hS.F ht⟩) hS.2.2 dX12_standing_12
set_option maxHeartbeats 2000000 in
set_option maxRecDepth 100000 in
theorem sX12_volume (l : Launch) (dC : Nat → ClassId) (dI : Nat → Nat → Nat) (sz : Nat) (L : List Nat) (cid : Nat → ClassId) (K : Int → Nat) (N : Int → Int) (tW : Nat) (sK sV : Nat → Nat) (v : Int → Int → Int) (p0 : Int) (p1 : Int) (hI : xI L K N v) (q0 : ok L K p0 12) (q1 : rg p1) : Met l yX12_volume (jk yX12_volume cX12_volume 3 (some .int)) ({ frames := 3, cells := 0, slots := 0, locals := 63 }) (va_Pc [.ref p0.toNat, .int (iI p1)] (xP (dC, dI) (xG L cid K N v) (xT cid) tW sK sV sz)) (va_Qi (fun (r : Int32) (_ : Unit) => ∃ z : Int, r = iI z ∧ (rg z)) (fun _ _ => True) (va_A [] sz)) 0 0 (va_A [] sz) := by
  refine Met.ofW (cc := cX12_volume) (maxL := 3) (ret := (some .int)) (by decide) rfl ?_
  intro p e s m args below meth c s₁ B hml hv
  obtain ⟨rfl, ⟨hsz, hP, hK, hD0⟩, hX⟩ := hv
  have hx := B.exec
  have hb := B.bytes
  have hr := B.returns
  have hts := atoms_spec (ws := (jk yX12_volume cX12_volume 3 (some .int))) B.pre
  have hj : ∀ w ∈ jw, w.before ([.ref p0.toNat, .int (iI p1)] : List Value).toArray s = true := fun w h => hts w (jm h)
  have hown : s.vm.findClass RX12 = some m.cls := findClass_of_methodNamed B.named
  subst hsz
  have hDw := hD0.self (sz := s.heap.size)
  have hAA : ∀ q : Nat, s.heap.size ≤ q → va_A (xG L cid K N v) s.heap.size q := fun q h => Or.inr h
  have hAw : ∀ q, va_A [] s.heap.size q → va_A (xG L cid K N v) s.heap.size q := ja_nil va_S.rf hAA
  generalize hAe : (va_A [] s.heap.size) = A at hAw ⊢
  have hA : ∀ q : Nat, s.heap.size ≤ q → A q := fun q h => by rw [← hAe]; exact Or.inr h
  have hS : va_S A s.heap s.heap [] := va_S.rf
  have hXa := hX.nar hAw
  have hP : va_P (dC, dI) vwCl (xG L cid K N v) s.heap := hP
  have hl := lv_entry ([.ref p0.toNat, .int (iI p1)]) (n := 3) (Nat.le_of_ble_eq_true rfl)
  rw [lg_entry_eq]
  generalize (lg_sl ([.ref p0.toNat, .int (iI p1)]) ++ List.replicate (3 - (lg_sl ([.ref p0.toNat, .int (iI p1)])).length) Slot.unset).toArray = ls at hl ⊢
  have hl : lv_has ls 3 [(0, .ref p0.toNat), (1, .int (iI p1))] := hl
  generalize hQ : MQ below (va_Qi (fun (r : Int32) (_ : Unit) => ∃ z : Int, r = iI z ∧ (rg z)) (fun _ _ => True) A) ([.ref p0.toNat, .int (iI p1)] : List Value).toArray s 0 0 A = Q
  suffices ST : ∀ (H : Heap) (locs : List Loc), va_P (dC, dI) vwCl (xG L cid K N v) H → va_S A s.heap H locs → W p l e ({ frames := 3, cells := 0, slots := 0, locals := 63 }) s m ([.ref p0.toNat, .int (iI p1)] : List Value).toArray below meth c H locs 0 0 Q (F0 m 0 ls []) from ST _ _ hP hS
  clear hP hS
  intro H locs hP hS
  refine lv_aload_n hx hb dX12_volume_0 rfl (lv_at hl 0 rfl) ?_
  refine lv_iload_n hx hb dX12_volume_1 rfl (lv_at hl 1 rfl) ?_
  refine jc_q (va_runV (As := [.int (iI p1)]) (rest := []) ⟨hx, hb, hml, hown, hts⟩ (sX12_entryAt l dC dI _ L cid K N tW sK sV v p0 p1 hI q0 (by omega)) (cwV 1 hts (jgoodV m_870 m_871 m_872 m_873 m_874) rfl rfl rfl (by decide +kernel) ⟨(Nat.le_of_ble_eq_true rfl), (Nat.le_of_ble_eq_true rfl)⟩) ⟨xP_blind, xrecv hK hP q0 rfl rfl, fun U hU hW => ⟨rfl, xP_of hU hW hP hK hDw hX hS hAw hAA⟩⟩ rfl rfl hl.1 rfl (lv_room (Nat.le_of_ble_eq_true rfl)) dX12_volume_2 ⟨(Nat.le_of_ble_eq_true rfl), (Nat.le_of_ble_eq_true rfl)⟩) hP hS hA (fun r_1 H locs w_2 hP hS => ?_)
  obtain ⟨z_3, rfl, h_4⟩ := w_2
  refine jt_q (rv z_3) rfl ?_
  refine xq_astore_n (lv' := [(2, rv z_3), (0, .ref p0.toNat), (1, .int (iI p1))]) hx hb dX12_volume_5 rfl hl (by decide) rfl (fun ls hl => ?_)
  refine xq_aload_n hx hb dX12_volume_6 rfl (lv_at hl 0 rfl) ?_
  refine xq_ifnonnull (tgt := 14) hx hb dX12_volume_7 (by decide) (fun h_5 => ?_) (fun h_5 => ?_)
  · have h_6 : ok L K z_3 0 := h_4.resolve_left (by omega)
    refine lv_aload_n hx hb dX12_volume_14 rfl (lv_at hl 1 rfl) ?_
    refine xq_aload_n hx hb dX12_volume_15 rfl (lv_at hl 0 rfl) ?_
    refine jt_q (.ref z_3.toNat) (rv_ref (h_6).1) ?_
    refine jc_i (va_runV (As := [.ref z_3.toNat]) (rest := []) ⟨hx, hb, hml, hown, hts⟩ (sX12_standing l dC dI _ L cid K N tW sK sV v p0 z_3 hI q0 h_6) (cwV 1 hts (jgoodV m_1039 m_1040 m_1041 m_873 m_1042) rfl rfl rfl (by decide +kernel) ⟨(Nat.le_of_ble_eq_true rfl), (Nat.le_of_ble_eq_true rfl)⟩) ⟨xP_blind, xrecv hK hP q0 rfl rfl, fun U hU hW => ⟨rfl, xP_of hU hW hP hK hDw hX hS hAw hAA⟩⟩ rfl rfl hl.1 rfl (lv_room (Nat.le_of_ble_eq_true rfl)) dX12_volume_16 ⟨(Nat.le_of_ble_eq_true rfl), (Nat.le_of_ble_eq_true rfl)⟩) hP hS hA (fun r_7 H locs w_8 hP hS => ?_)
    obtain ⟨z_9, rfl, h_10⟩ := w_8
    rw [← hQ]
    exact W.iret (v := iI z_9) hx hb hr (fun t ht hW => ⟨⟨iI z_9, (), rfl, ⟨z_9, rfl, by omega⟩, trivial⟩, hS.F ht⟩) hS.2.2 dX12_volume_19
  · refine lv_iconst (v := iI (-1)) hx hb dX12_volume_10 rfl ?_
    refine lv_goto (tgt := 19) hx hb dX12_volume_11 (by decide) ?_
    rw [← hQ]
    exact W.iret (v := iI (-1)) hx hb hr (fun t ht hW => ⟨⟨iI (-1), (), rfl, ⟨(-1), rfl, by omega⟩, trivial⟩, hS.F ht⟩) hS.2.2 dX12_volume_19
set_option maxHeartbeats 2000000 in
set_option maxRecDepth 100000 in
theorem sX12_arrange (l : Launch) (dC : Nat → ClassId) (dI : Nat → Nat → Nat) (sz : Nat) (L : List Nat) (cid : Nat → ClassId) (K : Int → Nat) (N : Int → Int) (tW : Nat) (sK sV : Nat → Nat) (v : Int → Int → Int) (p0 : Int) (p1 : Int) (hI : xI L K N v) (q0 : ok L K p0 12) (q1 : rg p1) : Met l yX12_arrange (jk yX12_arrange cX12_arrange 4 none) ({ frames := 5, cells := 0, slots := 0, locals := 137 }) (va_Pc [.ref p0.toNat, .int (iI p1)] (xP (dC, dI) (xG L cid K N v) (xT cid) tW sK sV sz)) (va_Qv (fun (u : (Int → Int → Int)) => (xI L K N u) ∧ (fr K [(0, 5), (6, 1), (6, 2), (6, 3), (6, 4), (6, 5), (12, 9), (34, (-1)), (37, (-1))] u v)) (fun u t => va_P (dC, dI) vwCl (xG L cid K N u) t.heap ∧ va_K (dC, dI) vwCl (xT cid) t ∧ va_D (va_A (xG L cid K N v) sz) (xG L cid K N u)) (va_A (xG L cid K N v) sz)) 0 0 (va_A (xG L cid K N v) sz) := by
  refine Met.ofW (cc := cX12_arrange) (maxL := 4) (ret := none) (by decide) rfl ?_
  intro p e s m args below meth c s₁ B hml hv
  obtain ⟨rfl, ⟨hsz, hP, hK, hD0⟩, hX⟩ := hv
  have hx := B.exec
  have hb := B.bytes
  have hr := B.returns
  have hts := atoms_spec (ws := (jk yX12_arrange cX12_arrange 4 none)) B.pre
  have hj : ∀ w ∈ jw, w.before ([.ref p0.toNat, .int (iI p1)] : List Value).toArray s = true := fun w h => hts w (jm h)
  have hown : s.vm.findClass RX12 = some m.cls := findClass_of_methodNamed B.named
  subst hsz
  have hD := hD0.self (sz := s.heap.size)
  generalize hAe : (va_A (xG L cid K N v) s.heap.size) = A at hD hX ⊢
  have hA : ∀ q : Nat, s.heap.size ≤ q → A q := fun q h => by rw [← hAe]; exact Or.inr h
  have hS : va_S A s.heap s.heap [] := va_S.rf
  have hXa := hX
  have hP : va_P (dC, dI) vwCl (xG L cid K N v) s.heap := hP
  have hl := lv_entry ([.ref p0.toNat, .int (iI p1)]) (n := 4) (Nat.le_of_ble_eq_true rfl)
  rw [lg_entry_eq]
  generalize (lg_sl ([.ref p0.toNat, .int (iI p1)]) ++ List.replicate (4 - (lg_sl ([.ref p0.toNat, .int (iI p1)])).length) Slot.unset).toArray = ls at hl ⊢
  have hl : lv_has ls 4 [(0, .ref p0.toNat), (1, .int (iI p1))] := hl
  generalize hQ : MQ below (va_Qv (fun (u : (Int → Int → Int)) => (xI L K N u) ∧ (fr K [(0, 5), (6, 1), (6, 2), (6, 3), (6, 4), (6, 5), (12, 9), (34, (-1)), (37, (-1))] u v)) (fun u t => va_P (dC, dI) vwCl (xG L cid K N u) t.heap ∧ va_K (dC, dI) vwCl (xT cid) t ∧ va_D A (xG L cid K N u)) A) ([.ref p0.toNat, .int (iI p1)] : List Value).toArray s 0 0 A = Q
  suffices ST : ∀ (H : Heap) (locs : List Loc), va_P (dC, dI) vwCl (xG L cid K N v) H → va_S A s.heap H locs → W p l e ({ frames := 5, cells := 0, slots := 0, locals := 137 }) s m ([.ref p0.toNat, .int (iI p1)] : List Value).toArray below meth c H locs 0 0 Q (F0 m 0 ls []) from ST _ _ hP hS
  clear hP hS
  intro H locs hP hS
  refine lv_aload_n hx hb dX12_arrange_0 rfl (lv_at hl 0 rfl) ?_
  refine lv_iconst (v := iI 0) hx hb dX12_arrange_1 rfl ?_
  refine px_RX12_268 (y := 0) hx hb hj hown hK hP hD hS hI q0 ⟨by omega, by omega⟩ dX12_arrange_2 (fun v_1 H locs f_2 e_3 o_4 I_5 hP hD hS => ?_)
  refine lv_aload_n hx hb dX12_arrange_5 rfl (lv_at hl 0 rfl) ?_
  have h_6 : ok L K (v p0 4) 6 := xf_12_4 hI q0
  refine gx_RX12_28 (y := v p0 4) hx hb hj hown hK hP q0 ((xf_12_4 I_5 q0).1) (fr_use q0 f_2 rfl) dX12_arrange_6 ?_
  refine lv_iload_n hx hb dX12_arrange_9 rfl (lv_at hl 1 rfl) ?_
  refine lv_aload_n hx hb dX12_arrange_10 rfl (lv_at hl 0 rfl) ?_
  have h_7 : 0 ≤ v p0 0 ∧ v p0 0 ≤ 2000 := xf_12_0 hI q0
  refine gx_RX12_133 (y := v p0 0) hx hb hj hown hK hP q0 (fr_use q0 f_2 rfl) dX12_arrange_11 ?_
  refine jcg_v (va_runV (As := [.int (iI p1), .int (iI (v p0 0))]) (rest := []) ⟨hx, hb, hml, hown, hts⟩ (sX6_take l dC dI _ L cid K N tW sK sV v_1 (v p0 4) p1 (v p0 0) I_5 h_6 (by omega) (by omega)) (cwV 2 hts (jgoodV m_1003 m_1004 m_1005 m_860 m_1006) rfl rfl rfl (by decide +kernel) ⟨(Nat.le_of_ble_eq_true rfl), (Nat.le_of_ble_eq_true rfl)⟩) ⟨xP_blind, xrecv hK hP h_6 rfl rfl, fun U hU hW => ⟨rfl, xP_of hU hW hP hK hD hX hS (fun _ h => h) hA⟩⟩ rfl rfl hl.1 rfl (lv_room (Nat.le_of_ble_eq_true rfl)) dX12_arrange_14 ⟨(Nat.le_of_ble_eq_true rfl), (Nat.le_of_ble_eq_true rfl)⟩) hD hS hA (fun v_11 H locs w_9 hP hK hD hS => ?_)
  obtain ⟨I_13, f_12⟩ := w_9
  have hP : va_P (dC, dI) vwCl (xG L cid K N v_11) H := hP
  have hD : va_D A (xG L cid K N v_11) := hD
  refine lv_iconst (v := iI 0) hx hb dX12_arrange_17 rfl ?_
  refine lv_istore_n (lv' := [(2, .int (iI 0)), (0, .ref p0.toNat), (1, .int (iI p1))]) hx hb dX12_arrange_18 rfl hl (by decide) rfl (fun ls hl => ?_)
  have L19 : ∀ (n19 : Nat) (a2_19 : Int) (vc19 : Int → Int → Int) (H : Heap) (locs : List Loc) (ls : Array Slot), (0 ≤ a2_19 ∧ a2_19 ≤ 2147483647) → (0 < (n19 : Int) ∧ (v p0 7) - a2_19 < (n19 : Int)) → fr K [(0, 5), (12, 9), (37, (-1))] vc19 v_11 → xI L K N vc19 → va_P (dC, dI) vwCl (xG L cid K N vc19) H → va_D A (xG L cid K N vc19) → va_S A s.heap H locs → lv_has ls 4 [(2, .int (iI a2_19)), (0, .ref p0.toNat), (1, .int (iI p1))] → W p l e ({ frames := 5, cells := 0, slots := 0, locals := 137 }) s m ([.ref p0.toNat, .int (iI p1)] : List Value).toArray below meth c H locs 0 0 Q (F0 m 19 ls []) := by
    intro n19
    induction n19 with
    | zero =>
      intro a2_19 vc19 H locs ls h_14 hm19 f_15 I_16 hP hD hS hl
      exfalso; omega
    | succ n19 ih19 =>
      intro a2_19 vc19 H locs ls h_17 hm19 f_18 I_19 hP hD hS hl
      refine lv_iload_n hx hb dX12_arrange_19 rfl (lv_at hl 0 rfl) ?_
      refine lv_aload_n hx hb dX12_arrange_20 rfl (lv_at hl 1 rfl) ?_
      have h_20 : 0 ≤ v p0 7 ∧ v p0 7 ≤ 60 := xf_12_7 hI q0
      refine gx_RX12_203 (y := v p0 7) hx hb hj hown hK hP q0 (((fr_use q0 f_18 rfl)).trans (((fr_use q0 f_12 rfl)).trans (fr_use q0 f_2 rfl))) dX12_arrange_21 ?_
      refine xr_icmp_ge (tgt := 73) hx hb dX12_arrange_24 (by decide) (by omega) (by omega) (fun h_21 => ?_) (fun h_21 => ?_)
      · rw [← hQ]
        exact W.vret hx hb hr (fun t ht hW => ⟨⟨vc19, rfl, ⟨I_19, (fr_tr f_18 rfl (fr_tr f_12 rfl (fr_tr f_2 rfl fr_rf)))⟩, by rw [ht]; exact hP, va_K.moved hW.alike hK, hD⟩, hS.F ht⟩) hS.2.2 dX12_arrange_73
      · refine lv_aload_n hx hb dX12_arrange_27 rfl (lv_at hl 1 rfl) ?_
        refine lv_iload_n hx hb dX12_arrange_28 rfl (lv_at hl 0 rfl) ?_
        refine jc_q (va_runV (As := [.int (iI a2_19)]) (rest := []) ⟨hx, hb, hml, hown, hts⟩ (sX12_entryAt l dC dI _ L cid K N tW sK sV vc19 p0 a2_19 I_19 q0 (by omega)) (cwV 1 hts (jgoodV m_870 m_871 m_872 m_873 m_874) rfl rfl rfl (by decide +kernel) ⟨(Nat.le_of_ble_eq_true rfl), (Nat.le_of_ble_eq_true rfl)⟩) ⟨xP_blind, xrecv hK hP q0 rfl rfl, fun U hU hW => ⟨rfl, xP_of hU hW hP hK hD hX hS (fun _ h => h) hA⟩⟩ rfl rfl hl.1 rfl (lv_room (Nat.le_of_ble_eq_true rfl)) dX12_arrange_29 ⟨(Nat.le_of_ble_eq_true rfl), (Nat.le_of_ble_eq_true rfl)⟩) hP hS hA (fun r_22 H locs w_23 hP hS => ?_)
        obtain ⟨z_24, rfl, h_25⟩ := w_23
        refine jt_q (rv z_24) rfl ?_
        refine xq_astore_n (lv' := [(3, rv z_24), (2, .int (iI a2_19)), (0, .ref p0.toNat), (1, .int (iI p1))]) hx hb dX12_arrange_32 rfl hl (by decide) rfl (fun ls hl => ?_)
        refine xq_aload_n hx hb dX12_arrange_33 rfl (lv_at hl 0 rfl) ?_
        have J67 : ∀ (vc67 : Int → Int → Int) (H : Heap) (locs : List Loc) (ls : Array Slot), fr K [(0, 5), (12, 9), (37, (-1))] vc67 vc19 → xI L K N vc67 → va_P (dC, dI) vwCl (xG L cid K N vc67) H → va_D A (xG L cid K N vc67) → va_S A s.heap H locs → lv_has ls 4 [(3, rv z_24), (2, .int (iI a2_19)), (0, .ref p0.toNat), (1, .int (iI p1))] → W p l e ({ frames := 5, cells := 0, slots := 0, locals := 137 }) s m ([.ref p0.toNat, .int (iI p1)] : List Value).toArray below meth c H locs 0 0 Q (F0 m 67 ls []) := by
          intro vc67 H locs ls f_26 I_27 hP hD hS hl
          refine lv_iinc (v := iI (a2_19 + 1)) (lv' := [(2, .int (iI (a2_19 + 1))), (3, rv z_24), (0, .ref p0.toNat), (1, .int (iI p1))]) hx hb dX12_arrange_67 hl (k := 1) rfl (iI_add _ _) (by decide) rfl (fun ls hl => ?_)
          refine lv_goto (tgt := 19) hx hb dX12_arrange_70 (by decide) ?_
          exact ih19 (a2_19 + 1) vc67 H locs ls (by omega) (by omega) (fr_tr f_26 rfl (fr_tr f_18 rfl fr_rf)) I_27 hP hD hS (lv_sub hl [0, 2, 3] rfl)
        refine xq_ifnull (tgt := 67) hx hb dX12_arrange_34 (by decide) (fun h_28 => ?_) (fun h_28 => ?_)
        · exact J67 vc19 H locs ls fr_rf I_19 hP hD hS hl
        · have h_29 : ok L K z_24 0 := h_25.resolve_left (by omega)
          refine xq_aload_n hx hb dX12_arrange_37 rfl (lv_at hl 0 rfl) ?_
          refine jt_q (.ref z_24.toNat) (rv_ref (h_29).1) ?_
          have h_30 : (-2147483648) ≤ v z_24 12 ∧ v z_24 12 ≤ 2147483647 := xf_0_12 hI h_29
          refine gx_RX12_247 (y := v z_24 12) hx hb hj hown hK hP h_29 (((fr_use h_29 f_18 rfl)).trans (((fr_use h_29 f_12 rfl)).trans (fr_use h_29 f_2 rfl))) dX12_arrange_38 ?_
          refine lv_iconst (v := iI (-1)) hx hb dX12_arrange_41 rfl ?_
          refine xr_icmp_ne (tgt := 67) hx hb dX12_arrange_42 (by decide) (by omega) (by omega) (fun h_31 => ?_) (fun h_31 => ?_)
          · exact J67 vc19 H locs ls fr_rf I_19 hP hD hS hl
          · refine lv_aload_n hx hb dX12_arrange_45 rfl (lv_at hl 2 rfl) ?_
            refine xq_aload_n hx hb dX12_arrange_46 rfl (lv_at hl 0 rfl) ?_
            refine jt_q (.ref z_24.toNat) (rv_ref (h_29).1) ?_
            refine jc_i (va_runV (As := [.ref z_24.toNat]) (rest := []) ⟨hx, hb, hml, hown, hts⟩ (sX12_standing l dC dI _ L cid K N tW sK sV vc19 p0 z_24 I_19 q0 h_29) (cwV 1 hts (jgoodV m_1039 m_1040 m_1041 m_873 m_1042) rfl rfl rfl (by decide +kernel) ⟨(Nat.le_of_ble_eq_true rfl), (Nat.le_of_ble_eq_true rfl)⟩) ⟨xP_blind, xrecv hK hP q0 rfl rfl, fun U hU hW => ⟨rfl, xP_of hU hW hP hK hD hX hS (fun _ h => h) hA⟩⟩ rfl rfl hl.1 rfl (lv_room (Nat.le_of_ble_eq_true rfl)) dX12_arrange_47 ⟨(Nat.le_of_ble_eq_true rfl), (Nat.le_of_ble_eq_true rfl)⟩) hP hS hA (fun r_32 H locs w_33 hP hS => ?_)
            obtain ⟨z_34, rfl, h_35⟩ := w_33
            refine lv_iload_n hx hb dX12_arrange_50 rfl (lv_at hl 3 rfl) ?_
            refine xr_icmp_ne (tgt := 67) hx hb dX12_arrange_51 (by decide) (by omega) (by omega) (fun h_36 => ?_) (fun h_36 => ?_)
            · exact J67 vc19 H locs ls fr_rf I_19 hP hD hS hl
            · refine lv_aload_n hx hb dX12_arrange_54 rfl (lv_at hl 2 rfl) ?_
              refine gx_RX12_28 (y := v p0 4) hx hb hj hown hK hP q0 ((xf_12_4 I_19 q0).1) (((fr_use q0 f_18 rfl)).trans (((fr_use q0 f_12 rfl)).trans (fr_use q0 f_2 rfl))) dX12_arrange_55 ?_
              refine xq_aload_n hx hb dX12_arrange_58 rfl (lv_at hl 0 rfl) ?_
              refine jt_q (.ref z_24.toNat) (rv_ref (h_29).1) ?_
              refine jcg_v (va_runV (As := [.ref z_24.toNat]) (rest := []) ⟨hx, hb, hml, hown, hts⟩ (sX6_prepare l dC dI _ L cid K N tW sK sV vc19 (v p0 4) z_24 I_19 h_6 h_29) (cwV 1 hts (jgoodV m_993 m_994 m_995 m_860 m_996) rfl rfl rfl (by decide +kernel) ⟨(Nat.le_of_ble_eq_true rfl), (Nat.le_of_ble_eq_true rfl)⟩) ⟨xP_blind, xrecv hK hP h_6 rfl rfl, fun U hU hW => ⟨rfl, xP_of hU hW hP hK hD hX hS (fun _ h => h) hA⟩⟩ rfl rfl hl.1 rfl (lv_room (Nat.le_of_ble_eq_true rfl)) dX12_arrange_59 ⟨(Nat.le_of_ble_eq_true rfl), (Nat.le_of_ble_eq_true rfl)⟩) hD hS hA (fun v_40 H locs w_38 hP hK hD hS => ?_)
              obtain ⟨I_42, f_41⟩ := w_38
              have hP : va_P (dC, dI) vwCl (xG L cid K N v_40) H := hP
              have hD : va_D A (xG L cid K N v_40) := hD
              refine lv_aload_n hx hb dX12_arrange_62 rfl (lv_at hl 2 rfl) ?_
              refine xq_aload_n hx hb dX12_arrange_63 rfl (lv_at hl 0 rfl) ?_
              refine jt_q (.ref z_24.toNat) (rv_ref (h_29).1) ?_
              refine jcg_v (va_runV (As := [.ref z_24.toNat]) (rest := []) ⟨hx, hb, hml, hown, hts⟩ (sX12_insertIntoRow l dC dI _ L cid K N tW sK sV v_40 p0 z_24 I_42 q0 h_29) (cwV 1 hts (jgoodV m_1043 m_1044 m_1045 m_873 m_1046) rfl rfl rfl (by decide +kernel) ⟨(Nat.le_of_ble_eq_true rfl), (Nat.le_of_ble_eq_true rfl)⟩) ⟨xP_blind, xrecv hK hP q0 rfl rfl, fun U hU hW => ⟨rfl, xP_of hU hW hP hK hD hX hS (fun _ h => h) hA⟩⟩ rfl rfl hl.1 rfl (lv_room (Nat.le_of_ble_eq_true rfl)) dX12_arrange_64 ⟨(Nat.le_of_ble_eq_true rfl), (Nat.le_of_ble_eq_true rfl)⟩) hD hS hA (fun v_46 H locs w_44 hP hK hD hS => ?_)
              obtain ⟨I_48, f_47⟩ := w_44
              have hP : va_P (dC, dI) vwCl (xG L cid K N v_46) H := hP
              have hD : va_D A (xG L cid K N v_46) := hD
              exact J67 v_46 H locs ls (fr_tr f_47 rfl (fr_tr f_41 rfl fr_rf)) I_48 hP hD hS hl
  exact L19 ((((v p0 7) - 0 : Int)).toNat + 1) 0 v_11 H locs ls (by omega) (by omega) fr_rf I_13 hP hD hS hl
set_option maxHeartbeats 2000000 in
set_option maxRecDepth 100000 in
theorem sX12_at (l : Launch) (dC : Nat → ClassId) (dI : Nat → Nat → Nat) (sz : Nat) (L : List Nat) (cid : Nat → ClassId) (K : Int → Nat) (N : Int → Int) (tW : Nat) (sK sV : Nat → Nat) (v : Int → Int → Int) (p0 : Int) (p1 : Int) (p2 : Int) (hI : xI L K N v) (q0 : ok L K p0 12) (q1 : rg p1) (q2 : rg p2) : Met l yX12_at (jk yX12_at cX12_at 4 (some .int)) ({ frames := 6, cells := 0, slots := 0, locals := 160 }) (va_Pc [.ref p0.toNat, .int (iI p1), .int (iI p2)] (xP (dC, dI) (xG L cid K N v) (xT cid) tW sK sV sz)) (va_Qi (fun (r : Int32) (u : (Int → Int → Int)) => ∃ z : Int, r = iI z ∧ (xI L K N u) ∧ (fr K [(0, 5), (6, 1), (6, 2), (6, 3), (6, 4), (6, 5), (12, 9), (34, (-1)), (37, (-1))] u v) ∧ (rg z)) (fun u t => va_P (dC, dI) vwCl (xG L cid K N u) t.heap ∧ va_K (dC, dI) vwCl (xT cid) t ∧ va_D (va_A (xG L cid K N v) sz) (xG L cid K N u)) (va_A (xG L cid K N v) sz)) 0 0 (va_A (xG L cid K N v) sz) := by
  refine Met.ofW (cc := cX12_at) (maxL := 4) (ret := (some .int)) (by decide) rfl ?_
  intro p e s m args below meth c s₁ B hml hv
  obtain ⟨rfl, ⟨hsz, hP, hK, hD0⟩, hX⟩ := hv
  have hx := B.exec
  have hb := B.bytes
  have hr := B.returns
  have hts := atoms_spec (ws := (jk yX12_at cX12_at 4 (some .int))) B.pre
  have hj : ∀ w ∈ jw, w.before ([.ref p0.toNat, .int (iI p1), .int (iI p2)] : List Value).toArray s = true := fun w h => hts w (jm h)
  have hown : s.vm.findClass RX12 = some m.cls := findClass_of_methodNamed B.named
  subst hsz
  have hD := hD0.self (sz := s.heap.size)
  generalize hAe : (va_A (xG L cid K N v) s.heap.size) = A at hD hX ⊢
  have hA : ∀ q : Nat, s.heap.size ≤ q → A q := fun q h => by rw [← hAe]; exact Or.inr h
  have hS : va_S A s.heap s.heap [] := va_S.rf
  have hXa := hX
  have hP : va_P (dC, dI) vwCl (xG L cid K N v) s.heap := hP
  have hl := lv_entry ([.ref p0.toNat, .int (iI p1), .int (iI p2)]) (n := 4) (Nat.le_of_ble_eq_true rfl)
  rw [lg_entry_eq]
  generalize (lg_sl ([.ref p0.toNat, .int (iI p1), .int (iI p2)]) ++ List.replicate (4 - (lg_sl ([.ref p0.toNat, .int (iI p1), .int (iI p2)])).length) Slot.unset).toArray = ls at hl ⊢
  have hl : lv_has ls 4 [(0, .ref p0.toNat), (1, .int (iI p1)), (2, .int (iI p2))] := hl
  generalize hQ : MQ below (va_Qi (fun (r : Int32) (u : (Int → Int → Int)) => ∃ z : Int, r = iI z ∧ (xI L K N u) ∧ (fr K [(0, 5), (6, 1), (6, 2), (6, 3), (6, 4), (6, 5), (12, 9), (34, (-1)), (37, (-1))] u v) ∧ (rg z)) (fun u t => va_P (dC, dI) vwCl (xG L cid K N u) t.heap ∧ va_K (dC, dI) vwCl (xT cid) t ∧ va_D A (xG L cid K N u)) A) ([.ref p0.toNat, .int (iI p1), .int (iI p2)] : List Value).toArray s 0 0 A = Q
  suffices ST : ∀ (H : Heap) (locs : List Loc), va_P (dC, dI) vwCl (xG L cid K N v) H → va_S A s.heap H locs → W p l e ({ frames := 6, cells := 0, slots := 0, locals := 160 }) s m ([.ref p0.toNat, .int (iI p1), .int (iI p2)] : List Value).toArray below meth c H locs 0 0 Q (F0 m 0 ls []) from ST _ _ hP hS
  clear hP hS
  intro H locs hP hS
  refine lv_aload_n hx hb dX12_at_0 rfl (lv_at hl 0 rfl) ?_
  refine lv_iload_n hx hb dX12_at_1 rfl (lv_at hl 1 rfl) ?_
  refine jc_q (va_runV (As := [.int (iI p1)]) (rest := []) ⟨hx, hb, hml, hown, hts⟩ (sX12_volumeAt l dC dI _ L cid K N tW sK sV v p0 p1 hI q0 (by omega)) (cwV 1 hts (jgoodV m_989 m_990 m_991 m_873 m_992) rfl rfl rfl (by decide +kernel) ⟨(Nat.le_of_ble_eq_true rfl), (Nat.le_of_ble_eq_true rfl)⟩) ⟨xP_blind, xrecv hK hP q0 rfl rfl, fun U hU hW => ⟨rfl, xP_of hU hW hP hK hD hX hS (fun _ h => h) hA⟩⟩ rfl rfl hl.1 rfl (lv_room (Nat.le_of_ble_eq_true rfl)) dX12_at_2 ⟨(Nat.le_of_ble_eq_true rfl), (Nat.le_of_ble_eq_true rfl)⟩) hP hS hA (fun r_1 H locs w_2 hP hS => ?_)
  obtain ⟨z_3, rfl, h_4⟩ := w_2
  refine jt_q (rv z_3) rfl ?_
  refine xq_astore_n (lv' := [(3, rv z_3), (0, .ref p0.toNat), (1, .int (iI p1)), (2, .int (iI p2))]) hx hb dX12_at_5 rfl hl (by decide) rfl (fun ls hl => ?_)
  refine xq_aload_n hx hb dX12_at_6 rfl (lv_at hl 0 rfl) ?_
  refine xq_ifnull (tgt := 14) hx hb dX12_at_7 (by decide) (fun h_5 => ?_) (fun h_5 => ?_)
  · refine lv_iconst (v := iI (-1)) hx hb dX12_at_14 rfl ?_
    rw [← hQ]
    exact W.iret (v := iI (-1)) hx hb hr (fun t ht hW => ⟨⟨iI (-1), v, rfl, ⟨(-1), rfl, hI, fr_rf, by omega⟩, by rw [ht]; exact hP, va_K.moved hW.alike hK, hD⟩, hS.F ht⟩) hS.2.2 dX12_at_15
  · have h_6 : ok L K z_3 11 := h_4.resolve_left (by omega)
    refine lv_iload_n hx hb dX12_at_10 rfl (lv_at hl 3 rfl) ?_
    refine xr_if_ge (tgt := 16) hx hb dX12_at_11 (by decide) (by omega) (fun h_7 => ?_) (fun h_7 => ?_)
    · refine xq_aload_n hx hb dX12_at_16 rfl (lv_at hl 0 rfl) ?_
      refine jt_q (.ref z_3.toNat) (rv_ref (h_6).1) ?_
      have h_8 : (-2147483648) ≤ v z_3 1 ∧ v z_3 1 ≤ 2147483647 := xf_11_1 hI h_6
      refine gx_RX12_170 (y := v z_3 1) hx hb hj hown hK hP h_6 rfl dX12_at_17 ?_
      refine lv_iconst (v := iI (-1)) hx hb dX12_at_20 rfl ?_
      refine xr_icmp_eq (tgt := 44) hx hb dX12_at_21 (by decide) (by omega) (by omega) (fun h_9 => ?_) (fun h_9 => ?_)
      · refine lv_aload_n hx hb dX12_at_44 rfl (lv_at hl 1 rfl) ?_
        refine lv_iload_n hx hb dX12_at_45 rfl (lv_at hl 2 rfl) ?_
        refine jcg_v (va_runV (As := [.int (iI p1)]) (rest := []) ⟨hx, hb, hml, hown, hts⟩ (sX12_arrange l dC dI _ L cid K N tW sK sV v p0 p1 hI q0 (by omega)) (cwV 1 hts (jgoodV m_1047 m_1048 m_1049 m_873 m_1050) rfl rfl rfl (by decide +kernel) ⟨(Nat.le_of_ble_eq_true rfl), (Nat.le_of_ble_eq_true rfl)⟩) ⟨xP_blind, xrecv hK hP q0 rfl rfl, fun U hU hW => ⟨rfl, xP_of hU hW hP hK hD hX hS (fun _ h => h) hA⟩⟩ rfl rfl hl.1 rfl (lv_room (Nat.le_of_ble_eq_true rfl)) dX12_at_46 ⟨(Nat.le_of_ble_eq_true rfl), (Nat.le_of_ble_eq_true rfl)⟩) hD hS hA (fun v_13 H locs w_11 hP hK hD hS => ?_)
        obtain ⟨I_15, f_14⟩ := w_11
        have hP : va_P (dC, dI) vwCl (xG L cid K N v_13) H := hP
        have hD : va_D A (xG L cid K N v_13) := hD
        refine lv_iload_n hx hb dX12_at_49 rfl (lv_at hl 3 rfl) ?_
        refine lv_aload_n hx hb dX12_at_50 rfl (lv_at hl 1 rfl) ?_
        have h_16 : 0 ≤ v_13 p0 9 ∧ v_13 p0 9 ≤ 60 := xf_12_9 I_15 q0
        refine gx_RX12_268 (y := v_13 p0 9) hx hb hj hown hK hP q0 rfl dX12_at_51 ?_
        refine xr_icmp_ge (tgt := 75) hx hb dX12_at_54 (by decide) (by omega) (by omega) (fun h_17 => ?_) (fun h_17 => ?_)
        · refine lv_iconst (v := iI (-1)) hx hb dX12_at_75 rfl ?_
          rw [← hQ]
          exact W.iret (v := iI (-1)) hx hb hr (fun t ht hW => ⟨⟨iI (-1), v_13, rfl, ⟨(-1), rfl, I_15, (fr_tr f_14 rfl fr_rf), by omega⟩, by rw [ht]; exact hP, va_K.moved hW.alike hK, hD⟩, hS.F ht⟩) hS.2.2 dX12_at_76
        · refine lv_iload_n hx hb dX12_at_57 rfl (lv_at hl 3 rfl) ?_
          refine lv_aload_n hx hb dX12_at_58 rfl (lv_at hl 1 rfl) ?_
          have h_18 : ok L K (v p0 8) 37 := xf_12_8 hI q0
          have h_19 : N (v p0 8) = 60 := xn_37 hI h_18
          refine gx_RX12_47 (y := v p0 8) hx hb hj hown hK hP q0 ((xf_12_8 I_15 q0).1) (fr_use q0 f_14 rfl) dX12_at_59 ?_
          refine lx_37 (y := 60) hx hb hK hP h_18 (by omega) (by omega) dX12_at_62 ?_
          refine xr_icmp_ge (tgt := 75) hx hb dX12_at_63 (by decide) (by omega) (by omega) (fun h_20 => ?_) (fun h_20 => ?_)
          · exfalso; omega
          · refine lv_aload_n hx hb dX12_at_66 rfl (lv_at hl 1 rfl) ?_
            refine gx_RX12_47 (y := v p0 8) hx hb hj hown hK hP q0 ((xf_12_8 I_15 q0).1) (fr_use q0 f_14 rfl) dX12_at_67 ?_
            refine lv_iload_n hx hb dX12_at_70 rfl (lv_at hl 3 rfl) ?_
            have h_21 : (-2147483648) ≤ v_13 (v p0 8) p2 ∧ v_13 (v p0 8) p2 ≤ 2147483647 := xe_37 I_15 h_18 (by omega)
            refine ax_37 (y := v_13 (v p0 8) p2) hx hb hK hP h_18 (by omega) (by omega) (by omega) rfl dX12_at_71 ?_
            refine lv_goto (tgt := 76) hx hb dX12_at_72 (by decide) ?_
            rw [← hQ]
            exact W.iret (v := iI (v_13 (v p0 8) p2)) hx hb hr (fun t ht hW => ⟨⟨iI (v_13 (v p0 8) p2), v_13, rfl, ⟨v_13 (v p0 8) p2, rfl, I_15, (fr_tr f_14 rfl fr_rf), by omega⟩, by rw [ht]; exact hP, va_K.moved hW.alike hK, hD⟩, hS.F ht⟩) hS.2.2 dX12_at_76
      · refine lv_iload_n hx hb dX12_at_24 rfl (lv_at hl 3 rfl) ?_
        refine xq_aload_n hx hb dX12_at_25 rfl (lv_at hl 0 rfl) ?_
        refine jt_q (.ref z_3.toNat) (rv_ref (h_6).1) ?_
        have h_22 : ok L K (v z_3 2) 63 := xf_11_2 hI h_6
        have h_23 : 0 ≤ N (v z_3 2) ∧ N (v z_3 2) ≤ 60 := xn_63 hI h_22
        refine gx_RX12_263 (y := v z_3 2) hx hb hj hown hK hP h_6 ((xf_11_2 hI h_6).1) rfl dX12_at_26 ?_
        refine lx_63 (y := N (v z_3 2)) hx hb hK hP h_22 rfl (by omega) dX12_at_29 ?_
        refine xr_icmp_ge (tgt := 42) hx hb dX12_at_30 (by decide) (by omega) (by omega) (fun h_24 => ?_) (fun h_24 => ?_)
        · refine lv_iconst (v := iI (-1)) hx hb dX12_at_42 rfl ?_
          rw [← hQ]
          exact W.iret (v := iI (-1)) hx hb hr (fun t ht hW => ⟨⟨iI (-1), v, rfl, ⟨(-1), rfl, hI, fr_rf, by omega⟩, by rw [ht]; exact hP, va_K.moved hW.alike hK, hD⟩, hS.F ht⟩) hS.2.2 dX12_at_43
        · refine xq_aload_n hx hb dX12_at_33 rfl (lv_at hl 0 rfl) ?_
          refine jt_q (.ref z_3.toNat) (rv_ref (h_6).1) ?_
          refine gx_RX12_263 (y := v z_3 2) hx hb hj hown hK hP h_6 ((xf_11_2 hI h_6).1) rfl dX12_at_34 ?_
          refine lv_iload_n hx hb dX12_at_37 rfl (lv_at hl 3 rfl) ?_
          have h_25 : (-2147483648) ≤ v (v z_3 2) p2 ∧ v (v z_3 2) p2 ≤ 2147483647 := xe_63 hI h_22 (by omega)
          refine ax_63 (y := v (v z_3 2) p2) hx hb hK hP h_22 (by omega) (by omega) (by omega) rfl dX12_at_38 ?_
          refine lv_goto (tgt := 43) hx hb dX12_at_39 (by decide) ?_
          rw [← hQ]
          exact W.iret (v := iI (v (v z_3 2) p2)) hx hb hr (fun t ht hW => ⟨⟨iI (v (v z_3 2) p2), v, rfl, ⟨v (v z_3 2) p2, rfl, hI, fr_rf, by omega⟩, by rw [ht]; exact hP, va_K.moved hW.alike hK, hD⟩, hS.F ht⟩) hS.2.2 dX12_at_43
    · refine lv_iconst (v := iI (-1)) hx hb dX12_at_14 rfl ?_
      rw [← hQ]
      exact W.iret (v := iI (-1)) hx hb hr (fun t ht hW => ⟨⟨iI (-1), v, rfl, ⟨(-1), rfl, hI, fr_rf, by omega⟩, by rw [ht]; exact hP, va_K.moved hW.alike hK, hD⟩, hS.F ht⟩) hS.2.2 dX12_at_15
