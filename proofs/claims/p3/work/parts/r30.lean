set_option maxHeartbeats 2000000 in
set_option maxRecDepth 100000 in
theorem sX13_endOf (l : Launch) (dC : Nat → ClassId) (dI : Nat → Nat → Nat) (sz : Nat) (ad : Nat → Nat) (ca : Nat → ClassId) (g : Nat → Int) (a : Nat → Int → Int) (p1 : Int) (hI : mI g a) (q1 : rg p1) (k1 : 0 ≤ p1 ∧ p1 < g 37) (hrLead : rLead g a) : Met l yX13_endOf (jk yX13_endOf cX13_endOf 4 (some .int)) ({ frames := 0, cells := 0, slots := 0, locals := 0 }) (va_Pc [.ref (ad 0), .int (iI p1)] (jw_P (dC, dI) (mG ad ca g a) (mT ca) sz)) (va_Qi (fun (r : Int32) (_ : Unit) => ∃ z : Int, r = iI z ∧ (rg z) ∧ (z = -1 ∨ (0 ≤ z ∧ z < g 37)) ∧ (z = -1 ∨ fin (a 27) (a 31) p1 z)) (fun _ _ => True) (va_A [] sz)) 0 0 (va_A [] sz) := by
  refine Met.ofW (cc := cX13_endOf) (maxL := 4) (ret := (some .int)) (by decide) rfl ?_
  intro p e s m args below meth c s₁ B hml hv
  obtain ⟨rfl, hsz, hP, hK, hD0⟩ := hv
  have hx := B.exec
  have hb := B.bytes
  have hr := B.returns
  have hts := atoms_spec (ws := (jk yX13_endOf cX13_endOf 4 (some .int))) B.pre
  have hj : ∀ w ∈ jw, w.before ([.ref (ad 0), .int (iI p1)] : List Value).toArray s = true := fun w h => hts w (jm h)
  have hown : s.vm.findClass RX13 = some m.cls := findClass_of_methodNamed B.named
  subst hsz
  have hD := hD0
  generalize hAe : (va_A [] s.heap.size) = A
  have hA : ∀ q : Nat, s.heap.size ≤ q → A q := fun q h => by rw [← hAe]; exact Or.inr h
  have hS : va_S A s.heap s.heap [] := va_S.rf
  have hP : va_P (dC, dI) vwCl (mG ad ca g a) s.heap := hP
  have hl := lv_entry ([.ref (ad 0), .int (iI p1)]) (n := 4) (Nat.le_of_ble_eq_true rfl)
  rw [lg_entry_eq]
  generalize (lg_sl ([.ref (ad 0), .int (iI p1)]) ++ List.replicate (4 - (lg_sl ([.ref (ad 0), .int (iI p1)])).length) Slot.unset).toArray = ls at hl ⊢
  have hl : lv_has ls 4 [(0, .ref (ad 0)), (1, .int (iI p1))] := hl
  generalize hQ : MQ below (va_Qi (fun (r : Int32) (_ : Unit) => ∃ z : Int, r = iI z ∧ (rg z) ∧ (z = -1 ∨ (0 ≤ z ∧ z < g 37)) ∧ (z = -1 ∨ fin (a 27) (a 31) p1 z)) (fun _ _ => True) A) ([.ref (ad 0), .int (iI p1)] : List Value).toArray s 0 0 A = Q
  suffices ST : ∀ (H : Heap) (locs : List Loc), va_P (dC, dI) vwCl (mG ad ca g a) H → va_S A s.heap H locs → W p l e ({ frames := 0, cells := 0, slots := 0, locals := 0 }) s m ([.ref (ad 0), .int (iI p1)] : List Value).toArray below meth c H locs 0 0 Q (F0 m 0 ls []) from ST _ _ hP hS
  clear hP hS
  intro H locs hP hS
  have b37_0 : 0 ≤ g 37 ∧ g 37 ≤ 60 := hI.1 37
  refine lv_iload_n hx hb dX13_endOf_0 rfl (lv_at hl 1 rfl) ?_
  refine lv_istore_n (lv' := [(2, .int (iI p1)), (0, .ref (ad 0)), (1, .int (iI p1))]) hx hb dX13_endOf_1 rfl hl (by decide) rfl (fun ls hl => ?_)
  refine lv_iconst (v := iI 0) hx hb dX13_endOf_2 rfl ?_
  refine lv_istore_n (lv' := [(3, .int (iI 0)), (2, .int (iI p1)), (0, .ref (ad 0)), (1, .int (iI p1))]) hx hb dX13_endOf_3 rfl hl (by decide) rfl (fun ls hl => ?_)
  have L4 : ∀ (n4 : Nat) (v3_4 v2_4 : Int) (H : Heap) (locs : List Loc) (ls : Array Slot), (0 ≤ v3_4 ∧ v3_4 ≤ 2147483647) → ((-2147483648) ≤ v2_4 ∧ v2_4 ≤ 2147483647) → (0 ≤ v2_4 ∧ v2_4 < g 37) → (chn (a 27) (a 31) p1 v2_4 v3_4) → (0 < (n4 : Int) ∧ (g 37) - v3_4 + 1 < (n4 : Int)) → va_P (dC, dI) vwCl (mG ad ca g a) H → va_S A s.heap H locs → lv_has ls 4 [(3, .int (iI v3_4)), (2, .int (iI v2_4)), (0, .ref (ad 0)), (1, .int (iI p1))] → W p l e ({ frames := 0, cells := 0, slots := 0, locals := 0 }) s m ([.ref (ad 0), .int (iI p1)] : List Value).toArray below meth c H locs 0 0 Q (F0 m 4 ls []) := by
    intro n4
    induction n4 with
    | zero =>
      intro v3_4 v2_4 H locs ls h_1 h_2 h_3 h_4 hm4 hP hS hl
      exfalso; omega
    | succ n4 ih4 =>
      intro v3_4 v2_4 H locs ls h_5 h_6 h_7 h_8 hm4 hP hS hl
      refine lv_iload_n hx hb dX13_endOf_4 rfl (lv_at hl 0 rfl) ?_
      refine lv_aload_n hx hb dX13_endOf_5 rfl (lv_at hl 2 rfl) ?_
      refine gf_entries hx hb hj hown hK hP hI dX13_endOf_6 (fun h_9 => ?_)
      refine xr_icmp_gt (tgt := 37) hx hb dX13_endOf_9 (by decide) (by omega) (by omega) (fun h_10 => ?_) (fun h_10 => ?_)
      · refine lv_iconst (v := iI (-1)) hx hb dX13_endOf_37 rfl ?_
        rw [← hQ]
        exact W.iret (v := iI (-1)) hx hb hr (fun t ht hW => ⟨⟨iI (-1), (), rfl, ⟨(-1), rfl, by omega, by omega, by show (-1) = -1 ∨ fin (a 27) (a 31) p1 (-1); first | exact Or.inl rfl | exact Or.inr (fin_of (by assumption) (by omega) (by assumption))⟩, trivial⟩, hS.F ht⟩) hS.2.2 dX13_endOf_38
      · refine lv_aload_n hx hb dX13_endOf_12 rfl (lv_at hl 2 rfl) ?_
        refine gf_kind hx hb hj hown hK hP dX13_endOf_13 ?_
        refine lv_iload_n hx hb dX13_endOf_16 rfl (lv_at hl 1 rfl) ?_
        refine ld_kind hx hb hK hP hI (by omega) (by omega) dX13_endOf_17 (fun h_11 => ?_)
        refine lv_iconst (v := iI 1) hx hb dX13_endOf_18 rfl ?_
        refine xr_icmp_eq (tgt := 24) hx hb dX13_endOf_19 (by decide) (by omega) (by omega) (fun h_12 => ?_) (fun h_12 => ?_)
        · refine lv_aload_n hx hb dX13_endOf_24 rfl (lv_at hl 2 rfl) ?_
          refine gf_leads hx hb hj hown hK hP dX13_endOf_25 ?_
          refine lv_iload_n hx hb dX13_endOf_28 rfl (lv_at hl 1 rfl) ?_
          have d31 := hrLead (v2_4) (by omega) (by omega) (by omega)
          refine ld_leads hx hb hK hP hI (by omega) (by omega) dX13_endOf_29 (fun h_13 => ?_)
          refine lv_istore_n (lv' := [(2, .int (iI (a 31 v2_4))), (3, .int (iI v3_4)), (0, .ref (ad 0)), (1, .int (iI p1))]) hx hb dX13_endOf_30 rfl hl (by decide) rfl (fun ls hl => ?_)
          refine lv_iinc (v := iI (v3_4 + 1)) (lv' := [(3, .int (iI (v3_4 + 1))), (2, .int (iI (a 31 v2_4))), (0, .ref (ad 0)), (1, .int (iI p1))]) hx hb dX13_endOf_31 hl (k := 1) rfl (iI_add _ _) (by decide) rfl (fun ls hl => ?_)
          refine lv_goto (tgt := 4) hx hb dX13_endOf_34 (by decide) ?_
          exact ih4 (v3_4 + 1) (a 31 v2_4) H locs ls (by omega) (by omega) (by omega) (by first | exact chn_0 | exact chn_s (by assumption) (by assumption)) (by omega) hP hS hl
        · refine lv_iload_n hx hb dX13_endOf_22 rfl (lv_at hl 1 rfl) ?_
          rw [← hQ]
          exact W.iret (v := iI v2_4) hx hb hr (fun t ht hW => ⟨⟨iI v2_4, (), rfl, ⟨v2_4, rfl, by omega, by omega, by show v2_4 = -1 ∨ fin (a 27) (a 31) p1 v2_4; first | exact Or.inl rfl | exact Or.inr (fin_of (by assumption) (by omega) (by assumption))⟩, trivial⟩, hS.F ht⟩) hS.2.2 dX13_endOf_23
  exact L4 ((((g 37) - 0 + 1 : Int)).toNat + 1) 0 p1 H locs ls (by omega) (by omega) (by omega) (by first | exact chn_0 | exact chn_s (by assumption) (by assumption)) (by omega) hP hS hl
set_option maxHeartbeats 2000000 in
set_option maxRecDepth 100000 in
theorem sX13_ends (l : Launch) (dC : Nat → ClassId) (dI : Nat → Nat → Nat) (sz : Nat) (ad : Nat → Nat) (ca : Nat → ClassId) (g : Nat → Int) (a : Nat → Int → Int) (p1 : Int) (hI : mI g a) (q1 : rg p1) (hrLead : rLead g a) : Met l yX13_ends (jk yX13_ends cX13_ends 2 (some .int)) ({ frames := 2, cells := 0, slots := 0, locals := 43 }) (va_Pc [.ref (ad 0), .int (iI p1)] (jw_P (dC, dI) (mG ad ca g a) (mT ca) sz)) (va_Qi (fun (r : Int32) (_ : Unit) => ∃ z : Int, r = iI z ∧ (rg z)) (fun _ _ => True) (va_A [] sz)) 0 0 (va_A [] sz) := by
  refine Met.ofW (cc := cX13_ends) (maxL := 2) (ret := (some .int)) (by decide) rfl ?_
  intro p e s m args below meth c s₁ B hml hv
  obtain ⟨rfl, hsz, hP, hK, hD0⟩ := hv
  have hx := B.exec
  have hb := B.bytes
  have hr := B.returns
  have hts := atoms_spec (ws := (jk yX13_ends cX13_ends 2 (some .int))) B.pre
  have hj : ∀ w ∈ jw, w.before ([.ref (ad 0), .int (iI p1)] : List Value).toArray s = true := fun w h => hts w (jm h)
  have hown : s.vm.findClass RX13 = some m.cls := findClass_of_methodNamed B.named
  subst hsz
  have hD := hD0
  generalize hAe : (va_A [] s.heap.size) = A
  have hA : ∀ q : Nat, s.heap.size ≤ q → A q := fun q h => by rw [← hAe]; exact Or.inr h
  have hS : va_S A s.heap s.heap [] := va_S.rf
  have hP : va_P (dC, dI) vwCl (mG ad ca g a) s.heap := hP
  have hl := lv_entry ([.ref (ad 0), .int (iI p1)]) (n := 2) (Nat.le_of_ble_eq_true rfl)
  rw [lg_entry_eq]
  generalize (lg_sl ([.ref (ad 0), .int (iI p1)]) ++ List.replicate (2 - (lg_sl ([.ref (ad 0), .int (iI p1)])).length) Slot.unset).toArray = ls at hl ⊢
  have hl : lv_has ls 2 [(0, .ref (ad 0)), (1, .int (iI p1))] := hl
  generalize hQ : MQ below (va_Qi (fun (r : Int32) (_ : Unit) => ∃ z : Int, r = iI z ∧ (rg z)) (fun _ _ => True) A) ([.ref (ad 0), .int (iI p1)] : List Value).toArray s 0 0 A = Q
  suffices ST : ∀ (H : Heap) (locs : List Loc), va_P (dC, dI) vwCl (mG ad ca g a) H → va_S A s.heap H locs → W p l e ({ frames := 2, cells := 0, slots := 0, locals := 43 }) s m ([.ref (ad 0), .int (iI p1)] : List Value).toArray below meth c H locs 0 0 Q (F0 m 0 ls []) from ST _ _ hP hS
  clear hP hS
  intro H locs hP hS
  refine lv_aload_n hx hb dX13_ends_0 rfl (lv_at hl 0 rfl) ?_
  refine lv_iload_n hx hb dX13_ends_1 rfl (lv_at hl 1 rfl) ?_
  refine jc_i (va_runV (As := [.int (iI p1)]) (rest := []) ⟨hx, hb, hml, hown, hts⟩ (sX13_isEntry l dC dI _ ad ca g a p1 hI (by omega)) (cwV 1 hts (jgoodV m_253 m_378 m_379 m_503 m_155) rfl rfl rfl (by decide +kernel) ⟨(Nat.le_of_ble_eq_true rfl), (Nat.le_of_ble_eq_true rfl)⟩) ⟨jw_blind, va_recv hK hP (ci := 13) (q0 := 0) rfl rfl, fun U hU hW => ⟨rfl, jw_of hU hW hP hK hD⟩⟩ rfl rfl hl.1 rfl (lv_room (Nat.le_of_ble_eq_true rfl)) dX13_ends_2 ⟨(Nat.le_of_ble_eq_true rfl), (Nat.le_of_ble_eq_true rfl)⟩) hP hS hA (fun r_1 H locs w_2 hP hS => ?_)
  obtain ⟨z_3, rfl, h_4, h_5⟩ := w_2
  have b_6 : 0 ≤ g 37 ∧ g 37 ≤ 60 := hI.1 37
  refine xr_if_eq (tgt := 26) hx hb dX13_ends_5 (by decide) (by omega) (fun h_7 => ?_) (fun h_7 => ?_)
  · refine lv_iconst (v := iI (-1)) hx hb dX13_ends_26 rfl ?_
    rw [← hQ]
    exact W.iret (v := iI (-1)) hx hb hr (fun t ht hW => ⟨⟨iI (-1), (), rfl, ⟨(-1), rfl, by omega⟩, trivial⟩, hS.F ht⟩) hS.2.2 dX13_ends_27
  · refine lv_aload_n hx hb dX13_ends_8 rfl (lv_at hl 0 rfl) ?_
    refine gf_kind hx hb hj hown hK hP dX13_ends_9 ?_
    refine lv_iload_n hx hb dX13_ends_12 rfl (lv_at hl 1 rfl) ?_
    refine ld_kind hx hb hK hP hI (by omega) (by omega) dX13_ends_13 (fun h_8 => ?_)
    refine lv_iconst (v := iI 1) hx hb dX13_ends_14 rfl ?_
    refine xr_icmp_ne (tgt := 26) hx hb dX13_ends_15 (by decide) (by omega) (by omega) (fun h_9 => ?_) (fun h_9 => ?_)
    · refine lv_iconst (v := iI (-1)) hx hb dX13_ends_26 rfl ?_
      rw [← hQ]
      exact W.iret (v := iI (-1)) hx hb hr (fun t ht hW => ⟨⟨iI (-1), (), rfl, ⟨(-1), rfl, by omega⟩, trivial⟩, hS.F ht⟩) hS.2.2 dX13_ends_27
    · refine lv_aload_n hx hb dX13_ends_18 rfl (lv_at hl 0 rfl) ?_
      refine lv_iload_n hx hb dX13_ends_19 rfl (lv_at hl 1 rfl) ?_
      refine jc_i (va_runV (As := [.int (iI p1)]) (rest := []) ⟨hx, hb, hml, hown, hts⟩ (sX13_endOf l dC dI _ ad ca g a p1 hI (by omega) (by omega) hrLead) (cwV 1 hts (jgoodV m_277 m_326 m_327 m_503 m_128) rfl rfl rfl (by decide +kernel) ⟨(Nat.le_of_ble_eq_true rfl), (Nat.le_of_ble_eq_true rfl)⟩) ⟨jw_blind, va_recv hK hP (ci := 13) (q0 := 0) rfl rfl, fun U hU hW => ⟨rfl, jw_of hU hW hP hK hD⟩⟩ rfl rfl hl.1 rfl (lv_room (Nat.le_of_ble_eq_true rfl)) dX13_ends_20 ⟨(Nat.le_of_ble_eq_true rfl), (Nat.le_of_ble_eq_true rfl)⟩) hP hS hA (fun r_10 H locs w_11 hP hS => ?_)
      obtain ⟨z_12, rfl, h_13, h_14, h_15⟩ := w_11
      have b_16 : 0 ≤ g 37 ∧ g 37 ≤ 60 := hI.1 37
      refine lv_goto (tgt := 27) hx hb dX13_ends_23 (by decide) ?_
      rw [← hQ]
      exact W.iret (v := iI z_12) hx hb hr (fun t ht hW => ⟨⟨iI z_12, (), rfl, ⟨z_12, rfl, by omega⟩, trivial⟩, hS.F ht⟩) hS.2.2 dX13_ends_27
set_option maxHeartbeats 2000000 in
set_option maxRecDepth 100000 in
theorem sX13_promise (l : Launch) (dC : Nat → ClassId) (dI : Nat → Nat → Nat) (sz : Nat) (ad : Nat → Nat) (ca : Nat → ClassId) (g : Nat → Int) (a : Nat → Int → Int) (p1 : Int) (hI : mI g a) (q1 : rg p1) (hrLead : rLead g a) (hrSh : rSh g a) : Met l yX13_promise (jk yX13_promise cX13_promise 4 (some .int)) ({ frames := 8, cells := 0, slots := 0, locals := 193 }) (va_Pc [.ref (ad 0), .int (iI p1)] (jw_P (dC, dI) (mG ad ca g a) (mT ca) sz)) (va_Qi (fun (r : Int32) (u : (Nat → Int) × (Nat → Int → Int)) => ∃ z : Int, r = iI z ∧ (u.1 = g) ∧ (mI u.1 u.2) ∧ (∀ j, j ∉ ([63, 64] : List Nat) → u.2 j = a j) ∧ (rg z)) (fun u t => va_P (dC, dI) vwCl (mG ad ca u.1 u.2) t.heap ∧ va_K (dC, dI) vwCl (mT ca) t ∧ va_D (va_A (mG ad ca g a) sz) (mG ad ca u.1 u.2)) (va_A (mG ad ca g a) sz)) 0 0 (va_A (mG ad ca g a) sz) := by
  refine Met.ofW (cc := cX13_promise) (maxL := 4) (ret := (some .int)) (by decide) rfl ?_
  intro p e s m args below meth c s₁ B hml hv
  obtain ⟨rfl, hsz, hP, hK, hD0⟩ := hv
  have hx := B.exec
  have hb := B.bytes
  have hr := B.returns
  have hts := atoms_spec (ws := (jk yX13_promise cX13_promise 4 (some .int))) B.pre
  have hj : ∀ w ∈ jw, w.before ([.ref (ad 0), .int (iI p1)] : List Value).toArray s = true := fun w h => hts w (jm h)
  have hown : s.vm.findClass RX13 = some m.cls := findClass_of_methodNamed B.named
  subst hsz
  have hD := hD0.self (sz := s.heap.size)
  generalize hAe : (va_A (mG ad ca g a) s.heap.size) = A at hD ⊢
  have hA : ∀ q : Nat, s.heap.size ≤ q → A q := fun q h => by rw [← hAe]; exact Or.inr h
  have hS : va_S A s.heap s.heap [] := va_S.rf
  have hP : va_P (dC, dI) vwCl (mG ad ca g a) s.heap := hP
  have haA : ∀ j, j ∉ ([63, 64] : List Nat) → a j = a j := fun _ _ => rfl
  have hl := lv_entry ([.ref (ad 0), .int (iI p1)]) (n := 4) (Nat.le_of_ble_eq_true rfl)
  rw [lg_entry_eq]
  generalize (lg_sl ([.ref (ad 0), .int (iI p1)]) ++ List.replicate (4 - (lg_sl ([.ref (ad 0), .int (iI p1)])).length) Slot.unset).toArray = ls at hl ⊢
  have hl : lv_has ls 4 [(0, .ref (ad 0)), (1, .int (iI p1))] := hl
  generalize hQ : MQ below (va_Qi (fun (r : Int32) (u : (Nat → Int) × (Nat → Int → Int)) => ∃ z : Int, r = iI z ∧ (u.1 = g) ∧ (mI u.1 u.2) ∧ (∀ j, j ∉ ([63, 64] : List Nat) → u.2 j = a j) ∧ (rg z)) (fun u t => va_P (dC, dI) vwCl (mG ad ca u.1 u.2) t.heap ∧ va_K (dC, dI) vwCl (mT ca) t ∧ va_D A (mG ad ca u.1 u.2)) A) ([.ref (ad 0), .int (iI p1)] : List Value).toArray s 0 0 A = Q
  suffices ST : ∀ (H : Heap) (locs : List Loc), va_P (dC, dI) vwCl (mG ad ca g a) H → va_S A s.heap H locs → W p l e ({ frames := 8, cells := 0, slots := 0, locals := 193 }) s m ([.ref (ad 0), .int (iI p1)] : List Value).toArray below meth c H locs 0 0 Q (F0 m 0 ls []) from ST _ _ hP hS
  clear hP hS
  intro H locs hP hS
  have b37_0 : 0 ≤ g 37 ∧ g 37 ≤ 60 := hI.1 37
  refine lv_aload_n hx hb dX13_promise_0 rfl (lv_at hl 0 rfl) ?_
  refine lv_iload_n hx hb dX13_promise_1 rfl (lv_at hl 1 rfl) ?_
  refine jc_i (va_runV (As := [.int (iI p1)]) (rest := []) ⟨hx, hb, hml, hown, hts⟩ (sX13_isEntry l dC dI _ ad ca g a p1 hI (by omega)) (cwV 1 hts (jgoodV m_253 m_378 m_379 m_503 m_155) rfl rfl rfl (by decide +kernel) ⟨(Nat.le_of_ble_eq_true rfl), (Nat.le_of_ble_eq_true rfl)⟩) ⟨jw_blind, va_recv hK hP (ci := 13) (q0 := 0) rfl rfl, fun U hU hW => ⟨rfl, jw_of hU hW hP hK hD⟩⟩ rfl rfl hl.1 rfl (lv_room (Nat.le_of_ble_eq_true rfl)) dX13_promise_2 ⟨(Nat.le_of_ble_eq_true rfl), (Nat.le_of_ble_eq_true rfl)⟩) hP hS hA (fun r_1 H locs w_2 hP hS => ?_)
  obtain ⟨z_3, rfl, h_4, h_5⟩ := w_2
  have b_6 : 0 ≤ g 37 ∧ g 37 ≤ 60 := hI.1 37
  refine xr_if_eq (tgt := 26) hx hb dX13_promise_5 (by decide) (by omega) (fun h_7 => ?_) (fun h_7 => ?_)
  · refine lv_iconst (v := iI (-1)) hx hb dX13_promise_26 rfl ?_
    rw [← hQ]
    exact W.iret (v := iI (-1)) hx hb hr (fun t ht hW => ⟨⟨iI (-1), (g, a), rfl, ⟨(-1), rfl, rfl, hI, haA, by omega⟩, by rw [ht]; exact hP, va_K.moved hW.alike hK, hD⟩, hS.F ht⟩) hS.2.2 dX13_promise_27
  · refine lv_aload_n hx hb dX13_promise_8 rfl (lv_at hl 0 rfl) ?_
    refine gf_kind hx hb hj hown hK hP dX13_promise_9 ?_
    refine lv_iload_n hx hb dX13_promise_12 rfl (lv_at hl 1 rfl) ?_
    refine ld_kind hx hb hK hP hI (by omega) (by omega) dX13_promise_13 (fun h_8 => ?_)
    refine lv_iconst (v := iI 1) hx hb dX13_promise_14 rfl ?_
    refine xr_icmp_ne (tgt := 26) hx hb dX13_promise_15 (by decide) (by omega) (by omega) (fun h_9 => ?_) (fun h_9 => ?_)
    · refine lv_iconst (v := iI (-1)) hx hb dX13_promise_26 rfl ?_
      rw [← hQ]
      exact W.iret (v := iI (-1)) hx hb hr (fun t ht hW => ⟨⟨iI (-1), (g, a), rfl, ⟨(-1), rfl, rfl, hI, haA, by omega⟩, by rw [ht]; exact hP, va_K.moved hW.alike hK, hD⟩, hS.F ht⟩) hS.2.2 dX13_promise_27
    · refine lv_aload_n hx hb dX13_promise_18 rfl (lv_at hl 0 rfl) ?_
      refine lv_iload_n hx hb dX13_promise_19 rfl (lv_at hl 1 rfl) ?_
      refine jcg_i (va_runV (As := [.int (iI p1)]) (rest := []) ⟨hx, hb, hml, hown, hts⟩ (sX13_isGone l dC dI _ ad ca g a p1 hI (by omega) (by omega) hrSh) (cwV 1 hts (jgoodV m_278 m_380 m_381 m_503 m_156) rfl rfl rfl (by decide +kernel) ⟨(Nat.le_of_ble_eq_true rfl), (Nat.le_of_ble_eq_true rfl)⟩) ⟨jw_blind, va_recv hK hP (ci := 13) (q0 := 0) rfl rfl, fun U hU hW => ⟨rfl, jw_of hU hW hP hK hD⟩⟩ rfl rfl hl.1 rfl (lv_room (Nat.le_of_ble_eq_true rfl)) dX13_promise_20 ⟨(Nat.le_of_ble_eq_true rfl), (Nat.le_of_ble_eq_true rfl)⟩) hD hS hA (fun r_10 u_16 H locs w_11 hP hK hD hS => ?_)
      obtain ⟨g_14, a_15⟩ := u_16
      obtain ⟨z_12, rfl, e_18, hI, hfr_17, h_13⟩ := w_11
      have hP : va_P (dC, dI) vwCl (mG ad ca g_14 a_15) H := hP
      have hD : va_D A (mG ad ca g_14 a_15) := hD
      have e_18 : g = g_14 := e_18.symm
      subst e_18
      have haA : ∀ j, j ∉ ([63, 64] : List Nat) → a_15 j = a j := fun j h => (hfr_17 j (fun q => h (by first | exact q | (simp only [List.mem_cons, List.not_mem_nil, or_false] at q ⊢ <;> omega)))).trans (haA j h)
      refine xr_if_eq (tgt := 28) hx hb dX13_promise_23 (by decide) (by omega) (fun h_19 => ?_) (fun h_19 => ?_)
      · refine lv_aload_n hx hb dX13_promise_28 rfl (lv_at hl 0 rfl) ?_
        refine lv_iload_n hx hb dX13_promise_29 rfl (lv_at hl 1 rfl) ?_
        refine jc_i (va_runV (As := [.int (iI p1)]) (rest := []) ⟨hx, hb, hml, hown, hts⟩ (sX13_endOf l dC dI _ ad ca g a_15 p1 hI (by omega) (by omega) (rLead_t rfl (haA 27 (by decide)) (haA 31 (by decide)) hrLead)) (cwV 1 hts (jgoodV m_277 m_326 m_327 m_503 m_128) rfl rfl rfl (by decide +kernel) ⟨(Nat.le_of_ble_eq_true rfl), (Nat.le_of_ble_eq_true rfl)⟩) ⟨jw_blind, va_recv hK hP (ci := 13) (q0 := 0) rfl rfl, fun U hU hW => ⟨rfl, jw_of hU hW hP hK hD⟩⟩ rfl rfl hl.1 rfl (lv_room (Nat.le_of_ble_eq_true rfl)) dX13_promise_30 ⟨(Nat.le_of_ble_eq_true rfl), (Nat.le_of_ble_eq_true rfl)⟩) hP hS hA (fun r_20 H locs w_21 hP hS => ?_)
        obtain ⟨z_22, rfl, h_23, h_24, h_25⟩ := w_21
        have b_26 : 0 ≤ g 37 ∧ g 37 ≤ 60 := hI.1 37
        refine lv_istore_n (lv' := [(2, .int (iI z_22)), (0, .ref (ad 0)), (1, .int (iI p1))]) hx hb dX13_promise_33 rfl hl (by decide) rfl (fun ls hl => ?_)
        refine lv_iload_n hx hb dX13_promise_34 rfl (lv_at hl 0 rfl) ?_
        refine lv_iconst (v := iI (-1)) hx hb dX13_promise_35 rfl ?_
        refine xr_icmp_ne (tgt := 41) hx hb dX13_promise_36 (by decide) (by omega) (by omega) (fun h_27 => ?_) (fun h_27 => ?_)
        · refine lv_aload_n hx hb dX13_promise_41 rfl (lv_at hl 1 rfl) ?_
          refine gf_leads hx hb hj hown hK hP dX13_promise_42 ?_
          refine lv_iload_n hx hb dX13_promise_45 rfl (lv_at hl 2 rfl) ?_
          have c31 := congrFun (haA 31 (by decide)) (p1)
          have c27 := congrFun (haA 27 (by decide)) (p1)
          have d31 := hrLead (p1) (by omega) (by omega) (by omega)
          have e27 : a 27 p1 = 1 := by omega
          obtain ⟨K, hK5, hK1, hK2, hK3⟩ := fin_1 (fin_e ((show z_22 = -1 ∨ fin (a_15 27) (a_15 31) p1 z_22 by assumption).resolve_left (by omega)) (haA 27 (by decide)) (haA 31 (by decide))) e27
          refine ld_leads hx hb hK hP hI (by omega) (by omega) dX13_promise_46 (fun h_28 => ?_)
          refine lv_istore_n (lv' := [(3, .int (iI (a_15 31 p1))), (2, .int (iI z_22)), (0, .ref (ad 0)), (1, .int (iI p1))]) hx hb dX13_promise_47 rfl hl (by decide) rfl (fun ls hl => ?_)
          have L48 : ∀ (n48 : Nat) (v3_48 ghi_48 : Int) (a_48 : Nat → Int → Int) (H : Heap) (locs : List Loc) (ls : Array Slot), ((-1) ≤ v3_48 ∧ v3_48 ≤ 59) → (0 ≤ v3_48 ∧ v3_48 < g 37) → (1 ≤ ghi_48 ∧ ghi_48 ≤ K) → (chn (a 27) (a 31) p1 (v3_48) ghi_48) → (mI g a_48) → (∀ j, j ∉ ([63, 64] : List Nat) → a_48 j = a j) → (0 < (n48 : Int) ∧ K - ghi_48 + 1 < (n48 : Int)) → va_P (dC, dI) vwCl (mG ad ca g a_48) H → va_D A (mG ad ca g a_48) → va_S A s.heap H locs → lv_has ls 4 [(3, .int (iI v3_48)), (2, .int (iI z_22)), (0, .ref (ad 0)), (1, .int (iI p1))] → W p l e ({ frames := 8, cells := 0, slots := 0, locals := 193 }) s m ([.ref (ad 0), .int (iI p1)] : List Value).toArray below meth c H locs 0 0 Q (F0 m 48 ls []) := by
            intro n48
            induction n48 with
            | zero =>
              intro v3_48 ghi_48 a_48 H locs ls h_29 h_30 h_31 h_32 hI haA hm48 hP hD hS hl
              exfalso; omega
            | succ n48 ih48 =>
              intro v3_48 ghi_48 a_48 H locs ls h_33 h_34 h_35 h_36 hI haA hm48 hP hD hS hl
              refine lv_iload_n hx hb dX13_promise_48 rfl (lv_at hl 0 rfl) ?_
              refine lv_iload_n hx hb dX13_promise_49 rfl (lv_at hl 1 rfl) ?_
              refine xr_icmp_eq (tgt := 73) hx hb dX13_promise_50 (by decide) (by omega) (by omega) (fun h_37 => ?_) (fun h_37 => ?_)
              · refine lv_aload_n hx hb dX13_promise_73 rfl (lv_at hl 2 rfl) ?_
                refine lv_iload_n hx hb dX13_promise_74 rfl (lv_at hl 1 rfl) ?_
                refine jcg_i (va_runV (As := [.int (iI z_22)]) (rest := []) ⟨hx, hb, hml, hown, hts⟩ (sX13_isGone l dC dI _ ad ca g a_48 z_22 hI (by omega) (by omega) (rSh_t rfl rfl (haA 9 (by decide)) (haA 10 (by decide)) (haA 11 (by decide)) (haA 12 (by decide)) (haA 16 (by decide)) hrSh)) (cwV 1 hts (jgoodV m_278 m_380 m_381 m_503 m_156) rfl rfl rfl (by decide +kernel) ⟨(Nat.le_of_ble_eq_true rfl), (Nat.le_of_ble_eq_true rfl)⟩) ⟨jw_blind, va_recv hK hP (ci := 13) (q0 := 0) rfl rfl, fun U hU hW => ⟨rfl, jw_of hU hW hP hK hD⟩⟩ rfl rfl hl.1 rfl (lv_room (Nat.le_of_ble_eq_true rfl)) dX13_promise_75 ⟨(Nat.le_of_ble_eq_true rfl), (Nat.le_of_ble_eq_true rfl)⟩) hD hS hA (fun r_38 u_44 H locs w_39 hP hK hD hS => ?_)
                obtain ⟨g_42, a_43⟩ := u_44
                obtain ⟨z_40, rfl, e_46, hI, hfr_45, h_41⟩ := w_39
                have hP : va_P (dC, dI) vwCl (mG ad ca g_42 a_43) H := hP
                have hD : va_D A (mG ad ca g_42 a_43) := hD
                have e_46 : g = g_42 := e_46.symm
                subst e_46
                have haA : ∀ j, j ∉ ([63, 64] : List Nat) → a_43 j = a j := fun j h => (hfr_45 j (fun q => h (by first | exact q | (simp only [List.mem_cons, List.not_mem_nil, or_false] at q ⊢ <;> omega)))).trans (haA j h)
                refine xr_if_eq (tgt := 83) hx hb dX13_promise_78 (by decide) (by omega) (fun h_47 => ?_) (fun h_47 => ?_)
                · refine lv_aload_n hx hb dX13_promise_83 rfl (lv_at hl 2 rfl) ?_
                  refine gf_setWith hx hb hj hown hK hP dX13_promise_84 ?_
                  refine lv_iload_n hx hb dX13_promise_87 rfl (lv_at hl 1 rfl) ?_
                  refine ld_setWith hx hb hK hP hI (by omega) (by omega) dX13_promise_88 (fun h_48 => ?_)
                  refine lv_iconst (v := iI (-1)) hx hb dX13_promise_89 rfl ?_
                  refine xr_icmp_eq (tgt := 97) hx hb dX13_promise_90 (by decide) (by omega) (by omega) (fun h_49 => ?_) (fun h_49 => ?_)
                  · refine lv_iconst (v := iI 1) hx hb dX13_promise_97 rfl ?_
                    rw [← hQ]
                    exact W.iret (v := iI 1) hx hb hr (fun t ht hW => ⟨⟨iI 1, (g, a_43), rfl, ⟨1, rfl, rfl, hI, haA, by omega⟩, by rw [ht]; exact hP, va_K.moved hW.alike hK, hD⟩, hS.F ht⟩) hS.2.2 dX13_promise_98
                  · refine lv_iconst (v := iI 0) hx hb dX13_promise_93 rfl ?_
                    refine lv_goto (tgt := 98) hx hb dX13_promise_94 (by decide) ?_
                    rw [← hQ]
                    exact W.iret (v := iI 0) hx hb hr (fun t ht hW => ⟨⟨iI 0, (g, a_43), rfl, ⟨0, rfl, rfl, hI, haA, by omega⟩, by rw [ht]; exact hP, va_K.moved hW.alike hK, hD⟩, hS.F ht⟩) hS.2.2 dX13_promise_98
                · refine lv_iconst (v := iI 2) hx hb dX13_promise_81 rfl ?_
                  rw [← hQ]
                  exact W.iret (v := iI 2) hx hb hr (fun t ht hW => ⟨⟨iI 2, (g, a_43), rfl, ⟨2, rfl, rfl, hI, haA, by omega⟩, by rw [ht]; exact hP, va_K.moved hW.alike hK, hD⟩, hS.F ht⟩) hS.2.2 dX13_promise_82
              · refine lv_aload_n hx hb dX13_promise_53 rfl (lv_at hl 2 rfl) ?_
                refine lv_iload_n hx hb dX13_promise_54 rfl (lv_at hl 0 rfl) ?_
                refine jcg_i (va_runV (As := [.int (iI v3_48)]) (rest := []) ⟨hx, hb, hml, hown, hts⟩ (sX13_isGone l dC dI _ ad ca g a_48 v3_48 hI (by omega) (by omega) (rSh_t rfl rfl (haA 9 (by decide)) (haA 10 (by decide)) (haA 11 (by decide)) (haA 12 (by decide)) (haA 16 (by decide)) hrSh)) (cwV 1 hts (jgoodV m_278 m_380 m_381 m_503 m_156) rfl rfl rfl (by decide +kernel) ⟨(Nat.le_of_ble_eq_true rfl), (Nat.le_of_ble_eq_true rfl)⟩) ⟨jw_blind, va_recv hK hP (ci := 13) (q0 := 0) rfl rfl, fun U hU hW => ⟨rfl, jw_of hU hW hP hK hD⟩⟩ rfl rfl hl.1 rfl (lv_room (Nat.le_of_ble_eq_true rfl)) dX13_promise_55 ⟨(Nat.le_of_ble_eq_true rfl), (Nat.le_of_ble_eq_true rfl)⟩) hD hS hA (fun r_50 u_56 H locs w_51 hP hK hD hS => ?_)
                obtain ⟨g_54, a_55⟩ := u_56
                obtain ⟨z_52, rfl, e_58, hI, hfr_57, h_53⟩ := w_51
                have hP : va_P (dC, dI) vwCl (mG ad ca g_54 a_55) H := hP
                have hD : va_D A (mG ad ca g_54 a_55) := hD
                have e_58 : g = g_54 := e_58.symm
                subst e_58
                have haA : ∀ j, j ∉ ([63, 64] : List Nat) → a_55 j = a j := fun j h => (hfr_57 j (fun q => h (by first | exact q | (simp only [List.mem_cons, List.not_mem_nil, or_false] at q ⊢ <;> omega)))).trans (haA j h)
                refine xr_if_eq (tgt := 63) hx hb dX13_promise_58 (by decide) (by omega) (fun h_59 => ?_) (fun h_59 => ?_)
                · refine lv_aload_n hx hb dX13_promise_63 rfl (lv_at hl 2 rfl) ?_
                  refine gf_leads hx hb hj hown hK hP dX13_promise_64 ?_
                  refine lv_iload_n hx hb dX13_promise_67 rfl (lv_at hl 0 rfl) ?_
                  have c31 := congrFun (haA 31 (by decide)) (v3_48)
                  obtain ⟨q26, q27⟩ := chn_in (show chn (a 27) (a 31) p1 v3_48 _ by assumption) hK2 (by omega) (by omega)
                  have d31 := hrLead (v3_48) (by omega) (by omega) q27
                  refine ld_leads hx hb hK hP hI (by omega) (by omega) dX13_promise_68 (fun h_60 => ?_)
                  refine lv_istore_n (lv' := [(3, .int (iI (a_55 31 v3_48))), (2, .int (iI z_22)), (0, .ref (ad 0)), (1, .int (iI p1))]) hx hb dX13_promise_69 rfl hl (by decide) rfl (fun ls hl => ?_)
                  refine lv_goto (tgt := 48) hx hb dX13_promise_70 (by decide) ?_
                  exact ih48 (a_55 31 v3_48) (ghi_48 + 1) a_55 H locs ls (by omega) (by omega) (by omega) (by first | (rw [c31]; exact chn_s (by assumption) q27) | (rw [c31]; exact (show chn _ _ _ _ (0 + 1) from chn_s chn_0 e27))) hI haA (by omega) hP hD hS hl
                · refine lv_iconst (v := iI 2) hx hb dX13_promise_61 rfl ?_
                  rw [← hQ]
                  exact W.iret (v := iI 2) hx hb hr (fun t ht hW => ⟨⟨iI 2, (g, a_55), rfl, ⟨2, rfl, rfl, hI, haA, by omega⟩, by rw [ht]; exact hP, va_K.moved hW.alike hK, hD⟩, hS.F ht⟩) hS.2.2 dX13_promise_62
          exact L48 (((K - 1 + 1 : Int)).toNat + 1) (a_15 31 p1) 1 a_15 H locs ls (by omega) (by omega) (by omega) (by first | (rw [c31]; exact chn_s (by assumption) q27) | (rw [c31]; exact (show chn _ _ _ _ (0 + 1) from chn_s chn_0 e27))) hI haA (by omega) hP hD hS hl
        · refine lv_iconst (v := iI 3) hx hb dX13_promise_39 rfl ?_
          rw [← hQ]
          exact W.iret (v := iI 3) hx hb hr (fun t ht hW => ⟨⟨iI 3, (g, a_15), rfl, ⟨3, rfl, rfl, hI, haA, by omega⟩, by rw [ht]; exact hP, va_K.moved hW.alike hK, hD⟩, hS.F ht⟩) hS.2.2 dX13_promise_40
      · refine lv_iconst (v := iI (-1)) hx hb dX13_promise_26 rfl ?_
        rw [← hQ]
        exact W.iret (v := iI (-1)) hx hb hr (fun t ht hW => ⟨⟨iI (-1), (g, a_15), rfl, ⟨(-1), rfl, rfl, hI, haA, by omega⟩, by rw [ht]; exact hP, va_K.moved hW.alike hK, hD⟩, hS.F ht⟩) hS.2.2 dX13_promise_27
set_option maxHeartbeats 2000000 in
set_option maxRecDepth 100000 in
theorem sX13_promised (l : Launch) (dC : Nat → ClassId) (dI : Nat → Nat → Nat) (sz : Nat) (ad : Nat → Nat) (ca : Nat → ClassId) (g : Nat → Int) (a : Nat → Int → Int) (p1 : Int) (hI : mI g a) (q1 : rg p1) (hrLead : rLead g a) : Met l yX13_promised (jk yX13_promised cX13_promised 5 (some .int)) ({ frames := 3, cells := 0, slots := 0, locals := 65 }) (va_Pc [.ref (ad 0), .int (iI p1)] (jw_P (dC, dI) (mG ad ca g a) (mT ca) sz)) (va_Qi (fun (r : Int32) (_ : Unit) => ∃ z : Int, r = iI z ∧ (rg z)) (fun _ _ => True) (va_A [] sz)) 0 0 (va_A [] sz) := by
  refine Met.ofW (cc := cX13_promised) (maxL := 5) (ret := (some .int)) (by decide) rfl ?_
  intro p e s m args below meth c s₁ B hml hv
  obtain ⟨rfl, hsz, hP, hK, hD0⟩ := hv
  have hx := B.exec
  have hb := B.bytes
  have hr := B.returns
  have hts := atoms_spec (ws := (jk yX13_promised cX13_promised 5 (some .int))) B.pre
  have hj : ∀ w ∈ jw, w.before ([.ref (ad 0), .int (iI p1)] : List Value).toArray s = true := fun w h => hts w (jm h)
  have hown : s.vm.findClass RX13 = some m.cls := findClass_of_methodNamed B.named
  subst hsz
  have hD := hD0
  generalize hAe : (va_A [] s.heap.size) = A
  have hA : ∀ q : Nat, s.heap.size ≤ q → A q := fun q h => by rw [← hAe]; exact Or.inr h
  have hS : va_S A s.heap s.heap [] := va_S.rf
  have hP : va_P (dC, dI) vwCl (mG ad ca g a) s.heap := hP
  have hl := lv_entry ([.ref (ad 0), .int (iI p1)]) (n := 5) (Nat.le_of_ble_eq_true rfl)
  rw [lg_entry_eq]
  generalize (lg_sl ([.ref (ad 0), .int (iI p1)]) ++ List.replicate (5 - (lg_sl ([.ref (ad 0), .int (iI p1)])).length) Slot.unset).toArray = ls at hl ⊢
  have hl : lv_has ls 5 [(0, .ref (ad 0)), (1, .int (iI p1))] := hl
  generalize hQ : MQ below (va_Qi (fun (r : Int32) (_ : Unit) => ∃ z : Int, r = iI z ∧ (rg z)) (fun _ _ => True) A) ([.ref (ad 0), .int (iI p1)] : List Value).toArray s 0 0 A = Q
  suffices ST : ∀ (H : Heap) (locs : List Loc), va_P (dC, dI) vwCl (mG ad ca g a) H → va_S A s.heap H locs → W p l e ({ frames := 3, cells := 0, slots := 0, locals := 65 }) s m ([.ref (ad 0), .int (iI p1)] : List Value).toArray below meth c H locs 0 0 Q (F0 m 0 ls []) from ST _ _ hP hS
  clear hP hS
  intro H locs hP hS
  have b37_0 : 0 ≤ g 37 ∧ g 37 ≤ 60 := hI.1 37
  refine lv_aload_n hx hb dX13_promised_0 rfl (lv_at hl 0 rfl) ?_
  refine lv_iload_n hx hb dX13_promised_1 rfl (lv_at hl 1 rfl) ?_
  refine jc_i (va_runV (As := [.int (iI p1)]) (rest := []) ⟨hx, hb, hml, hown, hts⟩ (sX13_isHand l dC dI _ ad ca g a p1 hI (by omega)) (cwV 1 hts (jgoodV m_261 m_382 m_383 m_503 m_157) rfl rfl rfl (by decide +kernel) ⟨(Nat.le_of_ble_eq_true rfl), (Nat.le_of_ble_eq_true rfl)⟩) ⟨jw_blind, va_recv hK hP (ci := 13) (q0 := 0) rfl rfl, fun U hU hW => ⟨rfl, jw_of hU hW hP hK hD⟩⟩ rfl rfl hl.1 rfl (lv_room (Nat.le_of_ble_eq_true rfl)) dX13_promised_2 ⟨(Nat.le_of_ble_eq_true rfl), (Nat.le_of_ble_eq_true rfl)⟩) hP hS hA (fun r_1 H locs w_2 hP hS => ?_)
  obtain ⟨z_3, rfl, h_4, h_5⟩ := w_2
  have b_6 : 0 ≤ g 50 ∧ g 50 ≤ 12 := hI.1 50
  refine xr_if_ne (tgt := 10) hx hb dX13_promised_5 (by decide) (by omega) (fun h_7 => ?_) (fun h_7 => ?_)
  · refine lv_iconst (v := iI 0) hx hb dX13_promised_10 rfl ?_
    refine lv_istore_n (lv' := [(2, .int (iI 0)), (0, .ref (ad 0)), (1, .int (iI p1))]) hx hb dX13_promised_11 rfl hl (by decide) rfl (fun ls hl => ?_)
    refine lv_iconst (v := iI 0) hx hb dX13_promised_12 rfl ?_
    refine lv_istore_n (lv' := [(3, .int (iI 0)), (2, .int (iI 0)), (0, .ref (ad 0)), (1, .int (iI p1))]) hx hb dX13_promised_13 rfl hl (by decide) rfl (fun ls hl => ?_)
    have L14 : ∀ (n14 : Nat) (v3_14 v2_14 : Int) (H : Heap) (locs : List Loc) (ls : Array Slot), (0 ≤ v3_14 ∧ v3_14 ≤ 2147483647) → ((-2147483648) ≤ v2_14 ∧ v2_14 ≤ 2147483647) → (0 < (n14 : Int) ∧ (g 37) - v3_14 < (n14 : Int)) → va_P (dC, dI) vwCl (mG ad ca g a) H → va_S A s.heap H locs → lv_has ls 5 [(3, .int (iI v3_14)), (2, .int (iI v2_14)), (0, .ref (ad 0)), (1, .int (iI p1))] → W p l e ({ frames := 3, cells := 0, slots := 0, locals := 65 }) s m ([.ref (ad 0), .int (iI p1)] : List Value).toArray below meth c H locs 0 0 Q (F0 m 14 ls []) := by
      intro n14
      induction n14 with
      | zero =>
        intro v3_14 v2_14 H locs ls h_8 h_9 hm14 hP hS hl
        exfalso; omega
      | succ n14 ih14 =>
        intro v3_14 v2_14 H locs ls h_10 h_11 hm14 hP hS hl
        refine lv_iload_n hx hb dX13_promised_14 rfl (lv_at hl 0 rfl) ?_
        refine lv_aload_n hx hb dX13_promised_15 rfl (lv_at hl 2 rfl) ?_
        refine gf_entries hx hb hj hown hK hP hI dX13_promised_16 (fun h_12 => ?_)
        refine xr_icmp_ge (tgt := 92) hx hb dX13_promised_19 (by decide) (by omega) (by omega) (fun h_13 => ?_) (fun h_13 => ?_)
        · refine lv_iload_n hx hb dX13_promised_92 rfl (lv_at hl 1 rfl) ?_
          rw [← hQ]
          exact W.iret (v := iI v2_14) hx hb hr (fun t ht hW => ⟨⟨iI v2_14, (), rfl, ⟨v2_14, rfl, by omega⟩, trivial⟩, hS.F ht⟩) hS.2.2 dX13_promised_93
        · refine lv_aload_n hx hb dX13_promised_22 rfl (lv_at hl 2 rfl) ?_
          refine gf_kind hx hb hj hown hK hP dX13_promised_23 ?_
          refine lv_iload_n hx hb dX13_promised_26 rfl (lv_at hl 0 rfl) ?_
          refine ld_kind hx hb hK hP hI (by omega) (by omega) dX13_promised_27 (fun h_14 => ?_)
          refine lv_iconst (v := iI 1) hx hb dX13_promised_28 rfl ?_
          have J50 : ∀ (s0_50 : Int) (H : Heap) (locs : List Loc) (ls : Array Slot), ((-2147483648) ≤ s0_50 ∧ s0_50 ≤ 2147483647) → (s0_50 = -1 ∨ (0 ≤ s0_50 ∧ s0_50 < g 37)) → va_P (dC, dI) vwCl (mG ad ca g a) H → va_S A s.heap H locs → lv_has ls 5 [(3, .int (iI v3_14)), (2, .int (iI v2_14)), (0, .ref (ad 0)), (1, .int (iI p1))] → W p l e ({ frames := 3, cells := 0, slots := 0, locals := 65 }) s m ([.ref (ad 0), .int (iI p1)] : List Value).toArray below meth c H locs 0 0 Q (F0 m 50 ls [.int (iI s0_50)]) := by
            intro s0_50 H locs ls h_15 h_16 hP hS hl
            refine lv_istore (lv' := [(4, .int (iI s0_50)), (3, .int (iI v3_14)), (2, .int (iI v2_14)), (0, .ref (ad 0)), (1, .int (iI p1))]) hx hb dX13_promised_50 hl (by decide) rfl (fun ls hl => ?_)
            refine lv_iload_n hx hb dX13_promised_52 rfl (lv_at hl 2 rfl) ?_
            refine lv_iload hx hb dX13_promised_53 (lv_at hl 0 rfl) ?_
            refine lv_iconst (v := iI (-1)) hx hb dX13_promised_55 rfl ?_
            have J84 : ∀ (s0_84 : Int) (H : Heap) (locs : List Loc) (ls : Array Slot), (0 ≤ s0_84 ∧ s0_84 ≤ 1) → va_P (dC, dI) vwCl (mG ad ca g a) H → va_S A s.heap H locs → lv_has ls 5 [(4, .int (iI s0_50)), (3, .int (iI v3_14)), (2, .int (iI v2_14)), (0, .ref (ad 0)), (1, .int (iI p1))] → W p l e ({ frames := 3, cells := 0, slots := 0, locals := 65 }) s m ([.ref (ad 0), .int (iI p1)] : List Value).toArray below meth c H locs 0 0 Q (F0 m 84 ls [.int (iI s0_84), .int (iI v2_14)]) := by
              intro s0_84 H locs ls h_17 hP hS hl
              refine xr_add hx hb dX13_promised_84 ?_
              refine xr_kept (fun z_18 h_19 h_20 => ?_)
              refine lv_istore_n (lv' := [(2, .int (iI z_18)), (4, .int (iI s0_50)), (3, .int (iI v3_14)), (0, .ref (ad 0)), (1, .int (iI p1))]) hx hb dX13_promised_85 rfl hl (by decide) rfl (fun ls hl => ?_)
              refine lv_iinc (v := iI (v3_14 + 1)) (lv' := [(3, .int (iI (v3_14 + 1))), (2, .int (iI z_18)), (4, .int (iI s0_50)), (0, .ref (ad 0)), (1, .int (iI p1))]) hx hb dX13_promised_86 hl (k := 2) rfl (iI_add _ _) (by decide) rfl (fun ls hl => ?_)
              refine lv_goto (tgt := 14) hx hb dX13_promised_89 (by decide) ?_
              exact ih14 (v3_14 + 1) z_18 H locs ls (by omega) (by omega) (by omega) hP hS (lv_sub hl [0, 1, 3, 4] rfl)
            have J83 : ∀ (H : Heap) (locs : List Loc) (ls : Array Slot), va_P (dC, dI) vwCl (mG ad ca g a) H → va_S A s.heap H locs → lv_has ls 5 [(4, .int (iI s0_50)), (3, .int (iI v3_14)), (2, .int (iI v2_14)), (0, .ref (ad 0)), (1, .int (iI p1))] → W p l e ({ frames := 3, cells := 0, slots := 0, locals := 65 }) s m ([.ref (ad 0), .int (iI p1)] : List Value).toArray below meth c H locs 0 0 Q (F0 m 83 ls [.int (iI v2_14)]) := by
              intro H locs ls hP hS hl
              refine lv_iconst (v := iI 0) hx hb dX13_promised_83 rfl ?_
              exact J84 0 H locs ls (by omega) hP hS hl
            refine xr_icmp_eq (tgt := 83) hx hb dX13_promised_56 (by decide) (by omega) (by omega) (fun h_21 => ?_) (fun h_21 => ?_)
            · exact J83 H locs ls hP hS hl
            · refine lv_aload_n hx hb dX13_promised_59 rfl (lv_at hl 3 rfl) ?_
              refine lv_iload hx hb dX13_promised_60 (lv_at hl 0 rfl) ?_
              refine jc_i (va_runV (As := [.int (iI s0_50)]) (rest := [.int (iI v2_14)]) ⟨hx, hb, hml, hown, hts⟩ (sX13_hangs l dC dI _ ad ca g a s0_50 hI (by omega) (by omega)) (cwV 1 hts (jgoodV m_271 m_358 m_359 m_503 m_144) rfl rfl rfl (by decide +kernel) ⟨(Nat.le_of_ble_eq_true rfl), (Nat.le_of_ble_eq_true rfl)⟩) ⟨jw_blind, va_recv hK hP (ci := 13) (q0 := 0) rfl rfl, fun U hU hW => ⟨rfl, jw_of hU hW hP hK hD⟩⟩ rfl rfl hl.1 rfl (lv_room (Nat.le_of_ble_eq_true rfl)) dX13_promised_62 ⟨(Nat.le_of_ble_eq_true rfl), (Nat.le_of_ble_eq_true rfl)⟩) hP hS hA (fun r_22 H locs w_23 hP hS => ?_)
              obtain ⟨z_24, rfl, h_25⟩ := w_23
              refine xr_if_eq (tgt := 83) hx hb dX13_promised_65 (by decide) (by omega) (fun h_26 => ?_) (fun h_26 => ?_)
              · exact J83 H locs ls hP hS hl
              · refine lv_aload_n hx hb dX13_promised_68 rfl (lv_at hl 3 rfl) ?_
                refine gf_givenTo hx hb hj hown hK hP dX13_promised_69 ?_
                refine lv_iload hx hb dX13_promised_72 (lv_at hl 0 rfl) ?_
                refine ld_givenTo hx hb hK hP hI (by omega) (by omega) dX13_promised_74 (fun h_27 => ?_)
                refine lv_iload_n hx hb dX13_promised_75 rfl (lv_at hl 4 rfl) ?_
                refine xr_icmp_ne (tgt := 83) hx hb dX13_promised_76 (by decide) (by omega) (by omega) (fun h_28 => ?_) (fun h_28 => ?_)
                · exact J83 H locs ls hP hS hl
                · refine lv_iconst (v := iI 1) hx hb dX13_promised_79 rfl ?_
                  refine lv_goto (tgt := 84) hx hb dX13_promised_80 (by decide) ?_
                  exact J84 1 H locs ls (by omega) hP hS hl
          have J49 : ∀ (H : Heap) (locs : List Loc) (ls : Array Slot), va_P (dC, dI) vwCl (mG ad ca g a) H → va_S A s.heap H locs → lv_has ls 5 [(3, .int (iI v3_14)), (2, .int (iI v2_14)), (0, .ref (ad 0)), (1, .int (iI p1))] → W p l e ({ frames := 3, cells := 0, slots := 0, locals := 65 }) s m ([.ref (ad 0), .int (iI p1)] : List Value).toArray below meth c H locs 0 0 Q (F0 m 49 ls []) := by
            intro H locs ls hP hS hl
            refine lv_iconst (v := iI (-1)) hx hb dX13_promised_49 rfl ?_
            exact J50 (-1) H locs ls (by omega) (by omega) hP hS hl
          refine xr_icmp_ne (tgt := 49) hx hb dX13_promised_29 (by decide) (by omega) (by omega) (fun h_29 => ?_) (fun h_29 => ?_)
          · exact J49 H locs ls hP hS hl
          · refine lv_aload_n hx hb dX13_promised_32 rfl (lv_at hl 2 rfl) ?_
            refine gf_isStruck hx hb hj hown hK hP dX13_promised_33 ?_
            refine lv_iload_n hx hb dX13_promised_36 rfl (lv_at hl 0 rfl) ?_
            refine ld_isStruck hx hb hK hP hI (by omega) (by omega) dX13_promised_37 (fun h_30 => ?_)
            refine xr_if_ne (tgt := 49) hx hb dX13_promised_38 (by decide) (by omega) (fun h_31 => ?_) (fun h_31 => ?_)
            · exact J49 H locs ls hP hS hl
            · refine lv_aload_n hx hb dX13_promised_41 rfl (lv_at hl 2 rfl) ?_
              refine lv_iload_n hx hb dX13_promised_42 rfl (lv_at hl 0 rfl) ?_
              refine jc_i (va_runV (As := [.int (iI v3_14)]) (rest := []) ⟨hx, hb, hml, hown, hts⟩ (sX13_endOf l dC dI _ ad ca g a v3_14 hI (by omega) (by omega) hrLead) (cwV 1 hts (jgoodV m_277 m_326 m_327 m_503 m_128) rfl rfl rfl (by decide +kernel) ⟨(Nat.le_of_ble_eq_true rfl), (Nat.le_of_ble_eq_true rfl)⟩) ⟨jw_blind, va_recv hK hP (ci := 13) (q0 := 0) rfl rfl, fun U hU hW => ⟨rfl, jw_of hU hW hP hK hD⟩⟩ rfl rfl hl.1 rfl (lv_room (Nat.le_of_ble_eq_true rfl)) dX13_promised_43 ⟨(Nat.le_of_ble_eq_true rfl), (Nat.le_of_ble_eq_true rfl)⟩) hP hS hA (fun r_32 H locs w_33 hP hS => ?_)
              obtain ⟨z_34, rfl, h_35, h_36, h_37⟩ := w_33
              have b_38 : 0 ≤ g 37 ∧ g 37 ≤ 60 := hI.1 37
              refine lv_goto (tgt := 50) hx hb dX13_promised_46 (by decide) ?_
              exact J50 z_34 H locs ls (by omega) (by omega) hP hS hl
    exact L14 ((((g 37) - 0 : Int)).toNat + 1) 0 0 H locs ls (by omega) (by omega) (by omega) hP hS hl
  · refine lv_iconst (v := iI (-1)) hx hb dX13_promised_8 rfl ?_
    rw [← hQ]
    exact W.iret (v := iI (-1)) hx hb hr (fun t ht hW => ⟨⟨iI (-1), (), rfl, ⟨(-1), rfl, by omega⟩, trivial⟩, hS.F ht⟩) hS.2.2 dX13_promised_9
set_option maxHeartbeats 2000000 in
set_option maxRecDepth 100000 in
theorem sX13_way (l : Launch) (dC : Nat → ClassId) (dI : Nat → Nat → Nat) (sz : Nat) (ad : Nat → Nat) (ca : Nat → ClassId) (g : Nat → Int) (a : Nat → Int → Int) (p1 : Int) (p2 : Int) (hI : mI g a) (q1 : rg p1) (q2 : rg p2) (k1 : 0 ≤ p1) (hrFH : rFH g a) : Met l yX13_way (jk yX13_way cX13_way 8 none) ({ frames := 0, cells := 0, slots := 0, locals := 0 }) (va_Pc [.ref (ad 0), .int (iI p1), .int (iI p2)] (jw_P (dC, dI) (mG ad ca g a) (mT ca) sz)) (va_Qv (fun (u : (Nat → Int) × (Nat → Int → Int)) => (mI u.1 u.2) ∧ (∀ j, j ∉ ([98, 99, 100] : List Nat) → u.1 j = g j) ∧ (∀ j, j ∉ ([74] : List Nat) → u.2 j = a j)) (fun u t => va_P (dC, dI) vwCl (mG ad ca u.1 u.2) t.heap ∧ va_K (dC, dI) vwCl (mT ca) t ∧ va_D (va_A (mG ad ca g a) sz) (mG ad ca u.1 u.2)) (va_A (mG ad ca g a) sz)) 0 0 (va_A (mG ad ca g a) sz) := by
  refine Met.ofW (cc := cX13_way) (maxL := 8) (ret := none) (by decide) rfl ?_
  intro p e s m args below meth c s₁ B hml hv
  obtain ⟨rfl, hsz, hP, hK, hD0⟩ := hv
  have hx := B.exec
  have hb := B.bytes
  have hr := B.returns
  have hts := atoms_spec (ws := (jk yX13_way cX13_way 8 none)) B.pre
  have hj : ∀ w ∈ jw, w.before ([.ref (ad 0), .int (iI p1), .int (iI p2)] : List Value).toArray s = true := fun w h => hts w (jm h)
  have hown : s.vm.findClass RX13 = some m.cls := findClass_of_methodNamed B.named
  subst hsz
  have hD := hD0.self (sz := s.heap.size)
  generalize hAe : (va_A (mG ad ca g a) s.heap.size) = A at hD ⊢
  have hA : ∀ q : Nat, s.heap.size ≤ q → A q := fun q h => by rw [← hAe]; exact Or.inr h
  have hS : va_S A s.heap s.heap [] := va_S.rf
  have hP : va_P (dC, dI) vwCl (mG ad ca g a) s.heap := hP
  have hfA : ∀ j, j ∉ ([98, 99, 100] : List Nat) → g j = g j := fun _ _ => rfl
  have haA : ∀ j, j ∉ ([74] : List Nat) → a j = a j := fun _ _ => rfl
  have hl := lv_entry ([.ref (ad 0), .int (iI p1), .int (iI p2)]) (n := 8) (Nat.le_of_ble_eq_true rfl)
  rw [lg_entry_eq]
  generalize (lg_sl ([.ref (ad 0), .int (iI p1), .int (iI p2)]) ++ List.replicate (8 - (lg_sl ([.ref (ad 0), .int (iI p1), .int (iI p2)])).length) Slot.unset).toArray = ls at hl ⊢
  have hl : lv_has ls 8 [(0, .ref (ad 0)), (1, .int (iI p1)), (2, .int (iI p2))] := hl
  generalize hQ : MQ below (va_Qv (fun (u : (Nat → Int) × (Nat → Int → Int)) => (mI u.1 u.2) ∧ (∀ j, j ∉ ([98, 99, 100] : List Nat) → u.1 j = g j) ∧ (∀ j, j ∉ ([74] : List Nat) → u.2 j = a j)) (fun u t => va_P (dC, dI) vwCl (mG ad ca u.1 u.2) t.heap ∧ va_K (dC, dI) vwCl (mT ca) t ∧ va_D A (mG ad ca u.1 u.2)) A) ([.ref (ad 0), .int (iI p1), .int (iI p2)] : List Value).toArray s 0 0 A = Q
  suffices ST : ∀ (H : Heap) (locs : List Loc), va_P (dC, dI) vwCl (mG ad ca g a) H → va_S A s.heap H locs → W p l e ({ frames := 0, cells := 0, slots := 0, locals := 0 }) s m ([.ref (ad 0), .int (iI p1), .int (iI p2)] : List Value).toArray below meth c H locs 0 0 Q (F0 m 0 ls []) from ST _ _ hP hS
  clear hP hS
  intro H locs hP hS
  have b97_0 : 0 ≤ g 97 ∧ g 97 ≤ 6 := hI.1 97
  have b96_0 : 0 ≤ g 96 ∧ g 96 ≤ 7 := hI.1 96
  refine lv_iconst (v := iI 0) hx hb dX13_way_0 rfl ?_
  refine lv_istore_n (lv' := [(3, .int (iI 0)), (0, .ref (ad 0)), (1, .int (iI p1)), (2, .int (iI p2))]) hx hb dX13_way_1 rfl hl (by decide) rfl (fun ls hl => ?_)
  have L2 : ∀ (n2 : Nat) (v3_2 : Int) (a_2 : Nat → Int → Int) (H : Heap) (locs : List Loc) (ls : Array Slot), (0 ≤ v3_2 ∧ v3_2 ≤ 2147483647) → (mI g a_2) → (∀ j, j ∉ ([74] : List Nat) → a_2 j = a j) → (0 < (n2 : Int) ∧ (g 97) - v3_2 < (n2 : Int)) → va_P (dC, dI) vwCl (mG ad ca g a_2) H → va_D A (mG ad ca g a_2) → va_S A s.heap H locs → lv_has ls 8 [(3, .int (iI v3_2)), (0, .ref (ad 0)), (1, .int (iI p1)), (2, .int (iI p2))] → W p l e ({ frames := 0, cells := 0, slots := 0, locals := 0 }) s m ([.ref (ad 0), .int (iI p1), .int (iI p2)] : List Value).toArray below meth c H locs 0 0 Q (F0 m 2 ls []) := by
    intro n2
    induction n2 with
    | zero =>
      intro v3_2 a_2 H locs ls h_1 hI haA hm2 hP hD hS hl
      exfalso; omega
    | succ n2 ih2 =>
      intro v3_2 a_2 H locs ls h_2 hI haA hm2 hP hD hS hl
      refine lv_iload_n hx hb dX13_way_2 rfl (lv_at hl 0 rfl) ?_
      refine lv_aload_n hx hb dX13_way_3 rfl (lv_at hl 1 rfl) ?_
      refine gf_handMany hx hb hj hown hK hP hI dX13_way_4 (fun h_3 => ?_)
      refine xr_icmp_ge (tgt := 23) hx hb dX13_way_7 (by decide) (by omega) (by omega) (fun h_4 => ?_) (fun h_4 => ?_)
      · refine lv_iload_n hx hb dX13_way_23 rfl (lv_at hl 2 rfl) ?_
        refine lv_istore_n (lv' := [(3, .int (iI p1)), (0, .ref (ad 0)), (1, .int (iI p1)), (2, .int (iI p2))]) hx hb dX13_way_24 rfl hl (by decide) rfl (fun ls hl => ?_)
        refine lv_iconst (v := iI 0) hx hb dX13_way_25 rfl ?_
        refine lv_istore (lv' := [(4, .int (iI 0)), (3, .int (iI p1)), (0, .ref (ad 0)), (1, .int (iI p1)), (2, .int (iI p2))]) hx hb dX13_way_26 hl (by decide) rfl (fun ls hl => ?_)
        refine lv_iconst (v := iI 0) hx hb dX13_way_28 rfl ?_
        refine lv_istore (lv' := [(5, .int (iI 0)), (4, .int (iI 0)), (3, .int (iI p1)), (0, .ref (ad 0)), (1, .int (iI p1)), (2, .int (iI p2))]) hx hb dX13_way_29 hl (by decide) rfl (fun ls hl => ?_)
        refine lv_aload_n hx hb dX13_way_31 rfl (lv_at hl 3 rfl) ?_
        refine gf_fewMany hx hb hj hown hK hP hI dX13_way_32 (fun h_5 => ?_)
        refine lv_iconst (v := iI 1) hx hb dX13_way_35 rfl ?_
        refine xr_sub hx hb dX13_way_36 ?_
        refine lv_istore (lv' := [(6, .int (iI ((g 96) - 1))), (5, .int (iI 0)), (4, .int (iI 0)), (3, .int (iI p1)), (0, .ref (ad 0)), (1, .int (iI p1)), (2, .int (iI p2))]) hx hb dX13_way_37 hl (by decide) rfl (fun ls hl => ?_)
        have L39 : ∀ (n39 : Nat) (v6_39 v5_39 v4_39 v3_39 : Int) (a_39 : Nat → Int → Int) (H : Heap) (locs : List Loc) (ls : Array Slot), ((-1) ≤ v6_39 ∧ v6_39 ≤ 6) → ((-2147483648) ≤ v5_39 ∧ v5_39 ≤ 2147483647) → ((-2147483648) ≤ v4_39 ∧ v4_39 ≤ 2147483647) → ((-2147483648) ≤ v3_39 ∧ v3_39 ≤ 2147483647) → (0 ≤ v3_39) → (v6_39 ≤ 6) → (0 ≤ v4_39 ∧ v4_39 + v6_39 ≤ 6) → (mI g a_39) → (∀ j, j ∉ ([74] : List Nat) → a_39 j = a j) → (0 < (n39 : Int) ∧ v6_39 + 1 < (n39 : Int)) → va_P (dC, dI) vwCl (mG ad ca g a_39) H → va_D A (mG ad ca g a_39) → va_S A s.heap H locs → lv_has ls 8 [(6, .int (iI v6_39)), (5, .int (iI v5_39)), (4, .int (iI v4_39)), (3, .int (iI v3_39)), (0, .ref (ad 0)), (1, .int (iI p1)), (2, .int (iI p2))] → W p l e ({ frames := 0, cells := 0, slots := 0, locals := 0 }) s m ([.ref (ad 0), .int (iI p1), .int (iI p2)] : List Value).toArray below meth c H locs 0 0 Q (F0 m 39 ls []) := by
          intro n39
          induction n39 with
          | zero =>
            intro v6_39 v5_39 v4_39 v3_39 a_39 H locs ls h_6 h_7 h_8 h_9 h_10 h_11 h_12 hI haA hm39 hP hD hS hl
            exfalso; omega
          | succ n39 ih39 =>
            intro v6_39 v5_39 v4_39 v3_39 a_39 H locs ls h_13 h_14 h_15 h_16 h_17 h_18 h_19 hI haA hm39 hP hD hS hl
            refine lv_iload hx hb dX13_way_39 (lv_at hl 0 rfl) ?_
            refine xr_if_lt (tgt := 170) hx hb dX13_way_41 (by decide) (by omega) (fun h_20 => ?_) (fun h_20 => ?_)
            · refine lv_iload hx hb dX13_way_170 (lv_at hl 2 rfl) ?_
              refine lv_aload_n hx hb dX13_way_172 rfl (lv_at hl 4 rfl) ?_
              refine gf_bestMany hx hb hj hown hK hP hI dX13_way_173 (fun h_21 => ?_)
              refine xr_icmp_lt (tgt := 197) hx hb dX13_way_176 (by decide) (by omega) (by omega) (fun h_22 => ?_) (fun h_22 => ?_)
              · rw [← hQ]
                exact W.vret hx hb hr (fun t ht hW => ⟨⟨(g, a_39), rfl, ⟨hI, hfA, haA⟩, by rw [ht]; exact hP, va_K.moved hW.alike hK, hD⟩, hS.F ht⟩) hS.2.2 dX13_way_197
              · refine lv_iload hx hb dX13_way_179 (lv_at hl 2 rfl) ?_
                refine lv_aload_n hx hb dX13_way_181 rfl (lv_at hl 4 rfl) ?_
                refine gf_bestMany hx hb hj hown hK hP hI dX13_way_182 (fun h_23 => ?_)
                have J198 : ∀ (H : Heap) (locs : List Loc) (ls : Array Slot), va_P (dC, dI) vwCl (mG ad ca g a_39) H → va_D A (mG ad ca g a_39) → va_S A s.heap H locs → lv_has ls 8 [(6, .int (iI v6_39)), (5, .int (iI v5_39)), (4, .int (iI v4_39)), (3, .int (iI v3_39)), (0, .ref (ad 0)), (1, .int (iI p1)), (2, .int (iI p2))] → W p l e ({ frames := 0, cells := 0, slots := 0, locals := 0 }) s m ([.ref (ad 0), .int (iI p1), .int (iI p2)] : List Value).toArray below meth c H locs 0 0 Q (F0 m 198 ls []) := by
                  intro H locs ls hP hD hS hl
                  refine lv_aload_n hx hb dX13_way_198 rfl (lv_at hl 4 rfl) ?_
                  refine lv_iload hx hb dX13_way_199 (lv_at hl 2 rfl) ?_
                  refine pa_bestMany hx hb hj hown hK hP hD hS hI dX13_way_201 (fun g_24 z_27 H locs h_28 h_29 e_25 e_26 hI hP hD hS => ?_)
                  have hfA : ∀ j, j ∉ ([98, 99, 100] : List Nat) → g_24 j = g j := fun j h => (e_25 j (fun q => h (q ▸ (by decide : 99 ∈ ([98, 99, 100] : List Nat))))).trans (hfA j h)
                  have b_30 := e_25 100 (by decide)
                  have b_31 : g_24 96 = g 96 := hfA 96 (by decide)
                  have b_32 : g_24 97 = g 97 := hfA 97 (by decide)
                  refine lv_aload_n hx hb dX13_way_204 rfl (lv_at hl 4 rfl) ?_
                  refine lv_iload hx hb dX13_way_205 (lv_at hl 1 rfl) ?_
                  refine pa_bestLines hx hb hj hown hK hP hD hS hI dX13_way_207 (fun g_33 z_36 H locs h_37 h_38 e_34 e_35 hI hP hD hS => ?_)
                  have hfA : ∀ j, j ∉ ([98, 99, 100] : List Nat) → g_33 j = g j := fun j h => (e_34 j (fun q => h (q ▸ (by decide : 100 ∈ ([98, 99, 100] : List Nat))))).trans (hfA j h)
                  have b_39 := e_34 99 (by decide)
                  have b_40 : g_33 96 = g 96 := hfA 96 (by decide)
                  have b_41 : g_33 97 = g 97 := hfA 97 (by decide)
                  refine lv_aload_n hx hb dX13_way_210 rfl (lv_at hl 4 rfl) ?_
                  refine lv_iload_n hx hb dX13_way_211 rfl (lv_at hl 5 rfl) ?_
                  refine pf_bestCode hx hb hj hown hK hP hD hS hI (by omega) (by omega) dX13_way_212 (fun g_42 H locs e_43 e_44 hI hP hD hS => ?_)
                  have hfA : ∀ j, j ∉ ([98, 99, 100] : List Nat) → g_42 j = g j := fun j h => (e_43 j (fun q => h (q ▸ (by decide : 98 ∈ ([98, 99, 100] : List Nat))))).trans (hfA j h)
                  have b_45 := e_43 99 (by decide)
                  have b_46 := e_43 100 (by decide)
                  have b_47 : g_42 96 = g 96 := hfA 96 (by decide)
                  have b_48 : g_42 97 = g 97 := hfA 97 (by decide)
                  rw [← hQ]
                  exact W.vret hx hb hr (fun t ht hW => ⟨⟨(g_42, a_39), rfl, ⟨hI, hfA, haA⟩, by rw [ht]; exact hP, va_K.moved hW.alike hK, hD⟩, hS.F ht⟩) hS.2.2 dX13_way_215
                refine xr_icmp_ne (tgt := 198) hx hb dX13_way_185 (by decide) (by omega) (by omega) (fun h_49 => ?_) (fun h_49 => ?_)
                · exact J198 H locs ls hP hD hS hl
                · refine lv_iload hx hb dX13_way_188 (lv_at hl 1 rfl) ?_
                  refine lv_aload_n hx hb dX13_way_190 rfl (lv_at hl 4 rfl) ?_
                  refine gf_bestLines hx hb hj hown hK hP hI dX13_way_191 (fun h_50 => ?_)
                  refine xr_icmp_lt (tgt := 198) hx hb dX13_way_194 (by decide) (by omega) (by omega) (fun h_51 => ?_) (fun h_51 => ?_)
                  · exact J198 H locs ls hP hD hS hl
                  · rw [← hQ]
                    exact W.vret hx hb hr (fun t ht hW => ⟨⟨(g, a_39), rfl, ⟨hI, hfA, haA⟩, by rw [ht]; exact hP, va_K.moved hW.alike hK, hD⟩, hS.F ht⟩) hS.2.2 dX13_way_197
            · refine lv_iload_n hx hb dX13_way_44 rfl (lv_at hl 3 rfl) ?_
              refine lv_aload_n hx hb dX13_way_45 rfl (lv_at hl 4 rfl) ?_
              refine gf_handMany hx hb hj hown hK hP hI dX13_way_46 (fun h_52 => ?_)
              refine lv_iconst (v := iI 1) hx hb dX13_way_49 rfl ?_
              refine xr_add hx hb dX13_way_50 ?_
              refine xr_remS hx hb dX13_way_51 (by omega) (by omega) (by omega) (by omega) (fun h_53 => ?_)
              refine lv_istore (lv' := [(7, .int (iI (v3_39 % ((g 97) + 1)))), (6, .int (iI v6_39)), (5, .int (iI v5_39)), (4, .int (iI v4_39)), (3, .int (iI v3_39)), (0, .ref (ad 0)), (1, .int (iI p1)), (2, .int (iI p2))]) hx hb dX13_way_52 hl (by decide) rfl (fun ls hl => ?_)
              refine lv_iload_n hx hb dX13_way_54 rfl (lv_at hl 4 rfl) ?_
              refine lv_aload_n hx hb dX13_way_55 rfl (lv_at hl 5 rfl) ?_
              refine gf_handMany hx hb hj hown hK hP hI dX13_way_56 (fun h_54 => ?_)
              refine lv_iconst (v := iI 1) hx hb dX13_way_59 rfl ?_
              refine xr_add hx hb dX13_way_60 ?_
              refine xr_divS hx hb dX13_way_61 (by omega) (by omega) (by omega) (by omega) (fun h_55 => ?_)
              refine lv_istore_n (lv' := [(3, .int (iI (v3_39 / ((g 97) + 1)))), (7, .int (iI (v3_39 % ((g 97) + 1)))), (6, .int (iI v6_39)), (5, .int (iI v5_39)), (4, .int (iI v4_39)), (0, .ref (ad 0)), (1, .int (iI p1)), (2, .int (iI p2))]) hx hb dX13_way_62 rfl hl (by decide) rfl (fun ls hl => ?_)
              refine lv_iload hx hb dX13_way_63 (lv_at hl 1 rfl) ?_
              refine lv_aload_n hx hb dX13_way_65 rfl (lv_at hl 5 rfl) ?_
              refine gf_handMany hx hb hj hown hK hP hI dX13_way_66 (fun h_56 => ?_)
              have J164 : ∀ (v5_164 v4_164 : Int) (a_164 : Nat → Int → Int) (H : Heap) (locs : List Loc) (ls : Array Slot), ((-2147483648) ≤ v5_164 ∧ v5_164 ≤ 2147483647) → ((-2147483648) ≤ v4_164 ∧ v4_164 ≤ 2147483647) → (0 ≤ v4_164 ∧ v4_164 + v6_39 ≤ 7) → (mI g a_164) → (∀ j, j ∉ ([74] : List Nat) → a_164 j = a j) → va_P (dC, dI) vwCl (mG ad ca g a_164) H → va_D A (mG ad ca g a_164) → va_S A s.heap H locs → lv_has ls 8 [(3, .int (iI (v3_39 / ((g 97) + 1)))), (7, .int (iI (v3_39 % ((g 97) + 1)))), (6, .int (iI v6_39)), (5, .int (iI v5_164)), (4, .int (iI v4_164)), (0, .ref (ad 0)), (1, .int (iI p1)), (2, .int (iI p2))] → W p l e ({ frames := 0, cells := 0, slots := 0, locals := 0 }) s m ([.ref (ad 0), .int (iI p1), .int (iI p2)] : List Value).toArray below meth c H locs 0 0 Q (F0 m 164 ls []) := by
                intro v5_164 v4_164 a_164 H locs ls h_57 h_58 h_59 hI haA hP hD hS hl
                refine lv_iinc (v := iI (v6_39 + (-1))) (lv' := [(6, .int (iI (v6_39 + (-1)))), (3, .int (iI (v3_39 / ((g 97) + 1)))), (7, .int (iI (v3_39 % ((g 97) + 1)))), (5, .int (iI v5_164)), (4, .int (iI v4_164)), (0, .ref (ad 0)), (1, .int (iI p1)), (2, .int (iI p2))]) hx hb dX13_way_164 hl (k := 2) rfl (iI_add _ _) (by decide) rfl (fun ls hl => ?_)
                refine lv_goto (tgt := 39) hx hb dX13_way_167 (by decide) ?_
                exact ih39 (v6_39 + (-1)) v5_164 v4_164 (v3_39 / ((g 97) + 1)) a_164 H locs ls (by omega) (by omega) (by omega) (by omega) (by omega) (by omega) (by omega) hI haA (by omega) hP hD hS (lv_sub hl [0, 3, 4, 1, 5, 6, 7] rfl)
              refine xr_icmp_ne (tgt := 75) hx hb dX13_way_69 (by decide) (by omega) (by omega) (fun h_60 => ?_) (fun h_60 => ?_)
              · refine lv_aload_n hx hb dX13_way_75 rfl (lv_at hl 5 rfl) ?_
                refine gf_can hx hb hj hown hK hP dX13_way_76 ?_
                refine lv_bipush (v := iI 6) hx hb dX13_way_79 rfl ?_
                refine lv_iload hx hb dX13_way_81 (lv_at hl 2 rfl) ?_
                refine xr_mul hx hb dX13_way_83 ?_
                refine lv_iload hx hb dX13_way_84 (lv_at hl 1 rfl) ?_
                refine xr_add hx hb dX13_way_86 ?_
                refine xr_kept (fun z_61 h_62 h_63 => ?_)
                refine ld_can hx hb hK hP hI (by omega) (by omega) dX13_way_87 (fun h_64 => ?_)
                refine xr_if_ne (tgt := 92) hx hb dX13_way_88 (by decide) (by omega) (fun h_65 => ?_) (fun h_65 => ?_)
                · refine lv_aload_n hx hb dX13_way_92 rfl (lv_at hl 5 rfl) ?_
                  refine gf_gets hx hb hj hown hK hP dX13_way_93 ?_
                  refine lv_iload hx hb dX13_way_96 (lv_at hl 1 rfl) ?_
                  refine lv_dup2_11 hx hb dX13_way_98 rfl rfl ?_
                  refine ld_gets hx hb hK hP hI (by omega) (by omega) dX13_way_99 (fun h_66 => ?_)
                  refine lv_aload_n hx hb dX13_way_100 rfl (lv_at hl 5 rfl) ?_
                  refine gf_lacks hx hb hj hown hK hP dX13_way_101 ?_
                  refine lv_iload hx hb dX13_way_104 (lv_at hl 2 rfl) ?_
                  refine ld_lacks hx hb hK hP hI (by omega) (by omega) dX13_way_106 (fun h_67 => ?_)
                  refine xr_add hx hb dX13_way_107 ?_
                  refine xr_kept (fun z_68 h_69 h_70 => ?_)
                  refine sa_gets hx hb hK hP hD hS hI (by omega) (by omega) dX13_way_108 (fun a_71 z_74 H locs h_75 h_76 e_72 e_73 hI hP hD hS => ?_)
                  have haA : ∀ j, j ∉ ([74] : List Nat) → a_71 j = a j := fun j h => (e_72 j (fun q => h (q ▸ (by decide : 74 ∈ ([74] : List Nat))))).trans (haA j h)
                  refine lv_aload_n hx hb dX13_way_109 rfl (lv_at hl 5 rfl) ?_
                  refine gf_gets hx hb hj hown hK hP dX13_way_110 ?_
                  refine lv_iload hx hb dX13_way_113 (lv_at hl 1 rfl) ?_
                  refine ld_gets hx hb hK hP hI (by omega) (by omega) dX13_way_115 (fun h_77 => ?_)
                  refine lv_aload_n hx hb dX13_way_116 rfl (lv_at hl 5 rfl) ?_
                  refine gf_skill hx hb hj hown hK hP dX13_way_117 ?_
                  refine lv_aload_n hx hb dX13_way_120 rfl (lv_at hl 5 rfl) ?_
                  refine gf_fewHands hx hb hj hown hK hP dX13_way_121 ?_
                  refine lv_iload hx hb dX13_way_124 (lv_at hl 1 rfl) ?_
                  refine ld_fewHands hx hb hK hP hI (by omega) (by omega) dX13_way_126 (fun h_78 => ?_)
                  refine ld_skill hx hb hK hP hI (by omega) (by omega) dX13_way_127 (fun h_79 => ?_)
                  refine xr_add hx hb dX13_way_128 ?_
                  refine xr_kept (fun z_80 h_81 h_82 => ?_)
                  refine lv_iconst (v := iI 1) hx hb dX13_way_129 rfl ?_
                  refine xr_sub hx hb dX13_way_130 ?_
                  refine xr_kept (fun z_83 h_84 h_85 => ?_)
                  refine lv_aload_n hx hb dX13_way_131 rfl (lv_at hl 5 rfl) ?_
                  refine gf_skill hx hb hj hown hK hP dX13_way_132 ?_
                  refine lv_aload_n hx hb dX13_way_135 rfl (lv_at hl 5 rfl) ?_
                  refine gf_fewHands hx hb hj hown hK hP dX13_way_136 ?_
                  refine lv_iload hx hb dX13_way_139 (lv_at hl 1 rfl) ?_
                  refine ld_fewHands hx hb hK hP hI (by omega) (by omega) dX13_way_141 (fun h_86 => ?_)
                  refine ld_skill hx hb hK hP hI (by omega) (by omega) dX13_way_142 (fun h_87 => ?_)
                  have c38 := haA 38 (by decide)
                  have c72 := haA 72 (by decide)
                  have d38 := hrFH ((v3_39 % ((g 97) + 1))) (by omega) (by omega)
                  rw [← c38, ← c72] at d38
                  refine xr_divA hx hb dX13_way_143 (by omega) (by omega) (fun z_88 h_89 => ?_)
                  refine lv_iload_n hx hb dX13_way_144 rfl (lv_at hl 7 rfl) ?_
                  refine xr_icmp_le (tgt := 149) hx hb dX13_way_145 (by decide) (by omega) (by omega) (fun h_90 => ?_) (fun h_90 => ?_)
                  · refine lv_iinc (v := iI (v4_39 + 1)) (lv' := [(4, .int (iI (v4_39 + 1))), (3, .int (iI (v3_39 / ((g 97) + 1)))), (7, .int (iI (v3_39 % ((g 97) + 1)))), (6, .int (iI v6_39)), (5, .int (iI v5_39)), (0, .ref (ad 0)), (1, .int (iI p1)), (2, .int (iI p2))]) hx hb dX13_way_149 hl (k := 4) rfl (iI_add _ _) (by decide) rfl (fun ls hl => ?_)
                    refine lv_iload hx hb dX13_way_152 (lv_at hl 4 rfl) ?_
                    refine lv_aload_n hx hb dX13_way_154 rfl (lv_at hl 5 rfl) ?_
                    refine gf_lacks hx hb hj hown hK hP dX13_way_155 ?_
                    refine lv_iload hx hb dX13_way_158 (lv_at hl 3 rfl) ?_
                    refine ld_lacks hx hb hK hP hI (by omega) (by omega) dX13_way_160 (fun h_91 => ?_)
                    refine xr_add hx hb dX13_way_161 ?_
                    refine xr_kept (fun z_92 h_93 h_94 => ?_)
                    refine lv_istore (lv' := [(5, .int (iI z_92)), (4, .int (iI (v4_39 + 1))), (3, .int (iI (v3_39 / ((g 97) + 1)))), (7, .int (iI (v3_39 % ((g 97) + 1)))), (6, .int (iI v6_39)), (0, .ref (ad 0)), (1, .int (iI p1)), (2, .int (iI p2))]) hx hb dX13_way_162 hl (by decide) rfl (fun ls hl => ?_)
                    exact J164 z_92 (v4_39 + 1) a_71 H locs ls (by omega) (by omega) (by omega) hI haA hP hD hS (lv_sub hl [2, 3, 4, 0, 1, 5, 6, 7] rfl)
                  · rw [← hQ]
                    exact W.vret hx hb hr (fun t ht hW => ⟨⟨(g, a_71), rfl, ⟨hI, hfA, haA⟩, by rw [ht]; exact hP, va_K.moved hW.alike hK, hD⟩, hS.F ht⟩) hS.2.2 dX13_way_148
                · rw [← hQ]
                  exact W.vret hx hb hr (fun t ht hW => ⟨⟨(g, a_39), rfl, ⟨hI, hfA, haA⟩, by rw [ht]; exact hP, va_K.moved hW.alike hK, hD⟩, hS.F ht⟩) hS.2.2 dX13_way_91
              · refine lv_goto (tgt := 164) hx hb dX13_way_72 (by decide) ?_
                exact J164 v5_39 v4_39 a_39 H locs ls (by omega) (by omega) (by omega) hI haA hP hD hS hl
        exact L39 (((((g 96) - 1) + 1 : Int)).toNat + 1) ((g 96) - 1) 0 0 p1 a_2 H locs ls (by omega) (by omega) (by omega) (by omega) (by omega) (by omega) (by omega) hI haA (by omega) hP hD hS hl
      · refine lv_aload_n hx hb dX13_way_10 rfl (lv_at hl 1 rfl) ?_
        refine gf_gets hx hb hj hown hK hP dX13_way_11 ?_
        refine lv_iload_n hx hb dX13_way_14 rfl (lv_at hl 0 rfl) ?_
        refine lv_iconst (v := iI 0) hx hb dX13_way_15 rfl ?_
        refine sa_gets hx hb hK hP hD hS hI (by omega) (by omega) dX13_way_16 (fun a_95 z_98 H locs h_99 h_100 e_96 e_97 hI hP hD hS => ?_)
        have haA : ∀ j, j ∉ ([74] : List Nat) → a_95 j = a j := fun j h => (e_96 j (fun q => h (q ▸ (by decide : 74 ∈ ([74] : List Nat))))).trans (haA j h)
        refine lv_iinc (v := iI (v3_2 + 1)) (lv' := [(3, .int (iI (v3_2 + 1))), (0, .ref (ad 0)), (1, .int (iI p1)), (2, .int (iI p2))]) hx hb dX13_way_17 hl (k := 0) rfl (iI_add _ _) (by decide) rfl (fun ls hl => ?_)
        refine lv_goto (tgt := 2) hx hb dX13_way_20 (by decide) ?_
        exact ih2 (v3_2 + 1) a_95 H locs ls (by omega) hI haA (by omega) hP hD hS hl
  exact L2 ((((g 97) - 0 : Int)).toNat + 1) 0 a H locs ls (by omega) hI haA (by omega) hP hD hS hl
