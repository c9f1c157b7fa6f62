set_option maxHeartbeats 2000000 in
set_option maxRecDepth 100000 in
theorem sX13_takers (l : Launch) (dC : Nat → ClassId) (dI : Nat → Nat → Nat) (sz : Nat) (ad : Nat → Nat) (ca : Nat → ClassId) (g : Nat → Int) (a : Nat → Int → Int) (p1 : Int) (hI : mI g a) (q1 : rg p1) (hrSh : rSh g a) : Met l yX13_takers (jk yX13_takers cX13_takers 4 (some .int)) ({ frames := 9, cells := 0, slots := 0, locals := 218 }) (va_Pc [.ref (ad 0), .int (iI p1)] (jw_P (dC, dI) (mG ad ca g a) (mT ca) sz)) (va_Qi (fun (r : Int32) (u : (Nat → Int) × (Nat → Int → Int)) => ∃ z : Int, r = iI z ∧ (u.1 = g) ∧ (mI u.1 u.2) ∧ (∀ j, j ∉ ([62, 63, 64] : List Nat) → u.2 j = a j) ∧ (rg z)) (fun u t => va_P (dC, dI) vwCl (mG ad ca u.1 u.2) t.heap ∧ va_K (dC, dI) vwCl (mT ca) t ∧ va_D (va_A (mG ad ca g a) sz) (mG ad ca u.1 u.2)) (va_A (mG ad ca g a) sz)) 0 0 (va_A (mG ad ca g a) sz) := by
  refine Met.ofW (cc := cX13_takers) (maxL := 4) (ret := (some .int)) (by decide) rfl ?_
  intro p e s m args below meth c s₁ B hml hv
  obtain ⟨rfl, hsz, hP, hK, hD0⟩ := hv
  have hx := B.exec
  have hb := B.bytes
  have hr := B.returns
  have hts := atoms_spec (ws := (jk yX13_takers cX13_takers 4 (some .int))) B.pre
  have hj : ∀ w ∈ jw, w.before ([.ref (ad 0), .int (iI p1)] : List Value).toArray s = true := fun w h => hts w (jm h)
  have hown : s.vm.findClass RX13 = some m.cls := findClass_of_methodNamed B.named
  subst hsz
  have hD := hD0.self (sz := s.heap.size)
  generalize hAe : (va_A (mG ad ca g a) s.heap.size) = A at hD ⊢
  have hA : ∀ q : Nat, s.heap.size ≤ q → A q := fun q h => by rw [← hAe]; exact Or.inr h
  have hS : va_S A s.heap s.heap [] := va_S.rf
  have hP : va_P (dC, dI) vwCl (mG ad ca g a) s.heap := hP
  have haA : ∀ j, j ∉ ([62, 63, 64] : List Nat) → a j = a j := fun _ _ => rfl
  have hl := lv_entry ([.ref (ad 0), .int (iI p1)]) (n := 4) (Nat.le_of_ble_eq_true rfl)
  rw [lg_entry_eq]
  generalize (lg_sl ([.ref (ad 0), .int (iI p1)]) ++ List.replicate (4 - (lg_sl ([.ref (ad 0), .int (iI p1)])).length) Slot.unset).toArray = ls at hl ⊢
  have hl : lv_has ls 4 [(0, .ref (ad 0)), (1, .int (iI p1))] := hl
  generalize hQ : MQ below (va_Qi (fun (r : Int32) (u : (Nat → Int) × (Nat → Int → Int)) => ∃ z : Int, r = iI z ∧ (u.1 = g) ∧ (mI u.1 u.2) ∧ (∀ j, j ∉ ([62, 63, 64] : List Nat) → u.2 j = a j) ∧ (rg z)) (fun u t => va_P (dC, dI) vwCl (mG ad ca u.1 u.2) t.heap ∧ va_K (dC, dI) vwCl (mT ca) t ∧ va_D A (mG ad ca u.1 u.2)) A) ([.ref (ad 0), .int (iI p1)] : List Value).toArray s 0 0 A = Q
  suffices ST : ∀ (H : Heap) (locs : List Loc), va_P (dC, dI) vwCl (mG ad ca g a) H → va_S A s.heap H locs → W p l e ({ frames := 9, cells := 0, slots := 0, locals := 218 }) s m ([.ref (ad 0), .int (iI p1)] : List Value).toArray below meth c H locs 0 0 Q (F0 m 0 ls []) from ST _ _ hP hS
  clear hP hS
  intro H locs hP hS
  refine lv_aload_n hx hb dX13_takers_0 rfl (lv_at hl 0 rfl) ?_
  refine lv_iload_n hx hb dX13_takers_1 rfl (lv_at hl 1 rfl) ?_
  refine jc_i (va_runV (As := [.int (iI p1)]) (rest := []) ⟨hx, hb, hml, hown, hts⟩ (sX13_isEntry l dC dI _ ad ca g a p1 hI (by omega)) (cwV 1 hts (jgoodV m_253 m_378 m_379 m_503 m_155) rfl rfl rfl (by decide +kernel) ⟨(Nat.le_of_ble_eq_true rfl), (Nat.le_of_ble_eq_true rfl)⟩) ⟨jw_blind, va_recv hK hP (ci := 13) (q0 := 0) rfl rfl, fun U hU hW => ⟨rfl, jw_of hU hW hP hK hD⟩⟩ rfl rfl hl.1 rfl (lv_room (Nat.le_of_ble_eq_true rfl)) dX13_takers_2 ⟨(Nat.le_of_ble_eq_true rfl), (Nat.le_of_ble_eq_true rfl)⟩) hP hS hA (fun r_1 H locs w_2 hP hS => ?_)
  obtain ⟨z_3, rfl, h_4, h_5⟩ := w_2
  have b_6 : 0 ≤ g 37 ∧ g 37 ≤ 60 := hI.1 37
  refine xr_if_eq (tgt := 16) hx hb dX13_takers_5 (by decide) (by omega) (fun h_7 => ?_) (fun h_7 => ?_)
  · refine lv_iconst (v := iI (-1)) hx hb dX13_takers_16 rfl ?_
    rw [← hQ]
    exact W.iret (v := iI (-1)) hx hb hr (fun t ht hW => ⟨⟨iI (-1), (g, a), rfl, ⟨(-1), rfl, rfl, hI, haA, by omega⟩, by rw [ht]; exact hP, va_K.moved hW.alike hK, hD⟩, hS.F ht⟩) hS.2.2 dX13_takers_17
  · refine lv_aload_n hx hb dX13_takers_8 rfl (lv_at hl 0 rfl) ?_
    refine lv_iload_n hx hb dX13_takers_9 rfl (lv_at hl 1 rfl) ?_
    refine jc_i (va_runV (As := [.int (iI p1)]) (rest := []) ⟨hx, hb, hml, hown, hts⟩ (sX13_hangs l dC dI _ ad ca g a p1 hI (by omega) (by omega)) (cwV 1 hts (jgoodV m_271 m_358 m_359 m_503 m_144) rfl rfl rfl (by decide +kernel) ⟨(Nat.le_of_ble_eq_true rfl), (Nat.le_of_ble_eq_true rfl)⟩) ⟨jw_blind, va_recv hK hP (ci := 13) (q0 := 0) rfl rfl, fun U hU hW => ⟨rfl, jw_of hU hW hP hK hD⟩⟩ rfl rfl hl.1 rfl (lv_room (Nat.le_of_ble_eq_true rfl)) dX13_takers_10 ⟨(Nat.le_of_ble_eq_true rfl), (Nat.le_of_ble_eq_true rfl)⟩) hP hS hA (fun r_8 H locs w_9 hP hS => ?_)
    obtain ⟨z_10, rfl, h_11⟩ := w_9
    refine xr_if_ne (tgt := 18) hx hb dX13_takers_13 (by decide) (by omega) (fun h_12 => ?_) (fun h_12 => ?_)
    · refine lv_iconst (v := iI 0) hx hb dX13_takers_18 rfl ?_
      refine lv_istore_n (lv' := [(2, .int (iI 0)), (0, .ref (ad 0)), (1, .int (iI p1))]) hx hb dX13_takers_19 rfl hl (by decide) rfl (fun ls hl => ?_)
      refine lv_iconst (v := iI 0) hx hb dX13_takers_20 rfl ?_
      refine lv_istore_n (lv' := [(3, .int (iI 0)), (2, .int (iI 0)), (0, .ref (ad 0)), (1, .int (iI p1))]) hx hb dX13_takers_21 rfl hl (by decide) rfl (fun ls hl => ?_)
      have L22 : ∀ (n22 : Nat) (v3_22 v2_22 : Int) (a_22 : Nat → Int → Int) (H : Heap) (locs : List Loc) (ls : Array Slot), (0 ≤ v3_22 ∧ v3_22 ≤ 2147483647) → ((-2147483648) ≤ v2_22 ∧ v2_22 ≤ 2147483647) → (mI g a_22) → (∀ j, j ∉ ([62, 63, 64] : List Nat) → a_22 j = a j) → (0 < (n22 : Int) ∧ (g 50) - v3_22 < (n22 : Int)) → va_P (dC, dI) vwCl (mG ad ca g a_22) H → va_D A (mG ad ca g a_22) → va_S A s.heap H locs → lv_has ls 4 [(3, .int (iI v3_22)), (2, .int (iI v2_22)), (0, .ref (ad 0)), (1, .int (iI p1))] → W p l e ({ frames := 9, cells := 0, slots := 0, locals := 218 }) s m ([.ref (ad 0), .int (iI p1)] : List Value).toArray below meth c H locs 0 0 Q (F0 m 22 ls []) := by
        intro n22
        induction n22 with
        | zero =>
          intro v3_22 v2_22 a_22 H locs ls h_13 h_14 hI haA hm22 hP hD hS hl
          exfalso; omega
        | succ n22 ih22 =>
          intro v3_22 v2_22 a_22 H locs ls h_15 h_16 hI haA hm22 hP hD hS hl
          refine lv_iload_n hx hb dX13_takers_22 rfl (lv_at hl 0 rfl) ?_
          refine lv_aload_n hx hb dX13_takers_23 rfl (lv_at hl 2 rfl) ?_
          refine gf_hands hx hb hj hown hK hP hI dX13_takers_24 (fun h_17 => ?_)
          refine xr_icmp_ge (tgt := 55) hx hb dX13_takers_27 (by decide) (by omega) (by omega) (fun h_18 => ?_) (fun h_18 => ?_)
          · refine lv_iload_n hx hb dX13_takers_55 rfl (lv_at hl 1 rfl) ?_
            rw [← hQ]
            exact W.iret (v := iI v2_22) hx hb hr (fun t ht hW => ⟨⟨iI v2_22, (g, a_22), rfl, ⟨v2_22, rfl, rfl, hI, haA, by omega⟩, by rw [ht]; exact hP, va_K.moved hW.alike hK, hD⟩, hS.F ht⟩) hS.2.2 dX13_takers_56
          · refine lv_iload_n hx hb dX13_takers_30 rfl (lv_at hl 1 rfl) ?_
            refine lv_aload_n hx hb dX13_takers_31 rfl (lv_at hl 2 rfl) ?_
            refine lv_iload_n hx hb dX13_takers_32 rfl (lv_at hl 3 rfl) ?_
            refine lv_iload_n hx hb dX13_takers_33 rfl (lv_at hl 0 rfl) ?_
            refine jcg_i (va_runV (As := [.int (iI p1), .int (iI v3_22)]) (rest := [.int (iI v2_22)]) ⟨hx, hb, hml, hown, hts⟩ (sX13_mayBeGiven l dC dI _ ad ca g a_22 p1 v3_22 hI (by omega) (by omega) (rSh_t rfl rfl (haA 9 (by decide)) (haA 10 (by decide)) (haA 11 (by decide)) (haA 12 (by decide)) (haA 16 (by decide)) hrSh)) (cwV 2 hts (jgoodV m_268 m_420 m_421 m_503 m_177) rfl rfl rfl (by decide +kernel) ⟨(Nat.le_of_ble_eq_true rfl), (Nat.le_of_ble_eq_true rfl)⟩) ⟨jw_blind, va_recv hK hP (ci := 13) (q0 := 0) rfl rfl, fun U hU hW => ⟨rfl, jw_of hU hW hP hK hD⟩⟩ rfl rfl hl.1 rfl (lv_room (Nat.le_of_ble_eq_true rfl)) dX13_takers_34 ⟨(Nat.le_of_ble_eq_true rfl), (Nat.le_of_ble_eq_true rfl)⟩) hD hS hA (fun r_19 u_26 H locs w_20 hP hK hD hS => ?_)
            obtain ⟨g_24, a_25⟩ := u_26
            obtain ⟨z_21, rfl, e_28, hI, hfr_27, h_22, h_23⟩ := w_20
            have hP : va_P (dC, dI) vwCl (mG ad ca g_24 a_25) H := hP
            have hD : va_D A (mG ad ca g_24 a_25) := hD
            have e_28 : g = g_24 := e_28.symm
            subst e_28
            have haA : ∀ j, j ∉ ([62, 63, 64] : List Nat) → a_25 j = a j := fun j h => (hfr_27 j (fun q => h (by first | exact q | (simp only [List.mem_cons, List.not_mem_nil, or_false] at q ⊢ <;> omega)))).trans (haA j h)
            have b_29 : 0 ≤ g 37 ∧ g 37 ≤ 60 := hI.1 37
            have b_30 : 0 ≤ g 50 ∧ g 50 ≤ 12 := hI.1 50
            have J47 : ∀ (s0_47 : Int) (H : Heap) (locs : List Loc) (ls : Array Slot), ((-2147483648) ≤ s0_47 ∧ s0_47 ≤ 2147483647) → va_P (dC, dI) vwCl (mG ad ca g a_25) H → va_D A (mG ad ca g a_25) → va_S A s.heap H locs → lv_has ls 4 [(3, .int (iI v3_22)), (2, .int (iI v2_22)), (0, .ref (ad 0)), (1, .int (iI p1))] → W p l e ({ frames := 9, cells := 0, slots := 0, locals := 218 }) s m ([.ref (ad 0), .int (iI p1)] : List Value).toArray below meth c H locs 0 0 Q (F0 m 47 ls [.int (iI s0_47), .int (iI v2_22)]) := by
              intro s0_47 H locs ls h_31 hP hD hS hl
              refine lv_ior hx hb dX13_takers_47 ?_
              refine xr_any (fun z_32 h_33 => ?_)
              refine lv_istore_n (lv' := [(2, .int (iI z_32)), (3, .int (iI v3_22)), (0, .ref (ad 0)), (1, .int (iI p1))]) hx hb dX13_takers_48 rfl hl (by decide) rfl (fun ls hl => ?_)
              refine lv_iinc (v := iI (v3_22 + 1)) (lv' := [(3, .int (iI (v3_22 + 1))), (2, .int (iI z_32)), (0, .ref (ad 0)), (1, .int (iI p1))]) hx hb dX13_takers_49 hl (k := 1) rfl (iI_add _ _) (by decide) rfl (fun ls hl => ?_)
              refine lv_goto (tgt := 22) hx hb dX13_takers_52 (by decide) ?_
              exact ih22 (v3_22 + 1) z_32 a_25 H locs ls (by omega) (by omega) hI haA (by omega) hP hD hS hl
            refine xr_if_eq (tgt := 46) hx hb dX13_takers_37 (by decide) (by omega) (fun h_34 => ?_) (fun h_34 => ?_)
            · refine lv_iconst (v := iI 0) hx hb dX13_takers_46 rfl ?_
              exact J47 0 H locs ls (by omega) hP hD hS hl
            · refine lv_iconst (v := iI 1) hx hb dX13_takers_40 rfl ?_
              refine lv_iload_n hx hb dX13_takers_41 rfl (lv_at hl 0 rfl) ?_
              refine lv_ishl hx hb dX13_takers_42 ?_
              refine xr_any (fun z_35 h_36 => ?_)
              refine lv_goto (tgt := 47) hx hb dX13_takers_43 (by decide) ?_
              exact J47 z_35 H locs ls (by omega) hP hD hS hl
      exact L22 ((((g 50) - 0 : Int)).toNat + 1) 0 0 a H locs ls (by omega) (by omega) hI haA (by omega) hP hD hS hl
    · refine lv_iconst (v := iI (-1)) hx hb dX13_takers_16 rfl ?_
      rw [← hQ]
      exact W.iret (v := iI (-1)) hx hb hr (fun t ht hW => ⟨⟨iI (-1), (g, a), rfl, ⟨(-1), rfl, rfl, hI, haA, by omega⟩, by rw [ht]; exact hP, va_K.moved hW.alike hK, hD⟩, hS.F ht⟩) hS.2.2 dX13_takers_17
set_option maxHeartbeats 2000000 in
set_option maxRecDepth 100000 in
theorem sX13_canBeSet (l : Launch) (dC : Nat → ClassId) (dI : Nat → Nat → Nat) (sz : Nat) (ad : Nat → Nat) (ca : Nat → ClassId) (g : Nat → Int) (a : Nat → Int → Int) (p1 : Int) (p2 : Int) (hI : mI g a) (q1 : rg p1) (q2 : rg p2) (k1 : 0 ≤ p2 ∧ p2 ≤ 60) (hrSh : rSh g a) : Met l yX13_canBeSet (jk yX13_canBeSet cX13_canBeSet 5 (some .boolean)) ({ frames := 8, cells := 0, slots := 0, locals := 195 }) (va_Pc [.ref (ad 0), .int (iI p1), .int (iI p2)] (jw_P (dC, dI) (mG ad ca g a) (mT ca) sz)) (va_Qi (fun (r : Int32) (u : (Nat → Int) × (Nat → Int → Int)) => ∃ z : Int, r = iI z ∧ (u.1 = g) ∧ (mI u.1 u.2) ∧ (∀ j, j ∉ ([62, 63, 64] : List Nat) → u.2 j = a j) ∧ (0 ≤ z ∧ z ≤ 1)) (fun u t => va_P (dC, dI) vwCl (mG ad ca u.1 u.2) t.heap ∧ va_K (dC, dI) vwCl (mT ca) t ∧ va_D (va_A (mG ad ca g a) sz) (mG ad ca u.1 u.2)) (va_A (mG ad ca g a) sz)) 0 0 (va_A (mG ad ca g a) sz) := by
  refine Met.ofW (cc := cX13_canBeSet) (maxL := 5) (ret := (some .boolean)) (by decide) rfl ?_
  intro p e s m args below meth c s₁ B hml hv
  obtain ⟨rfl, hsz, hP, hK, hD0⟩ := hv
  have hx := B.exec
  have hb := B.bytes
  have hr := B.returns
  have hts := atoms_spec (ws := (jk yX13_canBeSet cX13_canBeSet 5 (some .boolean))) B.pre
  have hj : ∀ w ∈ jw, w.before ([.ref (ad 0), .int (iI p1), .int (iI p2)] : List Value).toArray s = true := fun w h => hts w (jm h)
  have hown : s.vm.findClass RX13 = some m.cls := findClass_of_methodNamed B.named
  subst hsz
  have hD := hD0.self (sz := s.heap.size)
  generalize hAe : (va_A (mG ad ca g a) s.heap.size) = A at hD ⊢
  have hA : ∀ q : Nat, s.heap.size ≤ q → A q := fun q h => by rw [← hAe]; exact Or.inr h
  have hS : va_S A s.heap s.heap [] := va_S.rf
  have hP : va_P (dC, dI) vwCl (mG ad ca g a) s.heap := hP
  have haA : ∀ j, j ∉ ([62, 63, 64] : List Nat) → a j = a j := fun _ _ => rfl
  have hl := lv_entry ([.ref (ad 0), .int (iI p1), .int (iI p2)]) (n := 5) (Nat.le_of_ble_eq_true rfl)
  rw [lg_entry_eq]
  generalize (lg_sl ([.ref (ad 0), .int (iI p1), .int (iI p2)]) ++ List.replicate (5 - (lg_sl ([.ref (ad 0), .int (iI p1), .int (iI p2)])).length) Slot.unset).toArray = ls at hl ⊢
  have hl : lv_has ls 5 [(0, .ref (ad 0)), (1, .int (iI p1)), (2, .int (iI p2))] := hl
  generalize hQ : MQ below (va_Qi (fun (r : Int32) (u : (Nat → Int) × (Nat → Int → Int)) => ∃ z : Int, r = iI z ∧ (u.1 = g) ∧ (mI u.1 u.2) ∧ (∀ j, j ∉ ([62, 63, 64] : List Nat) → u.2 j = a j) ∧ (0 ≤ z ∧ z ≤ 1)) (fun u t => va_P (dC, dI) vwCl (mG ad ca u.1 u.2) t.heap ∧ va_K (dC, dI) vwCl (mT ca) t ∧ va_D A (mG ad ca u.1 u.2)) A) ([.ref (ad 0), .int (iI p1), .int (iI p2)] : List Value).toArray s 0 0 A = Q
  suffices ST : ∀ (H : Heap) (locs : List Loc), va_P (dC, dI) vwCl (mG ad ca g a) H → va_S A s.heap H locs → W p l e ({ frames := 8, cells := 0, slots := 0, locals := 195 }) s m ([.ref (ad 0), .int (iI p1), .int (iI p2)] : List Value).toArray below meth c H locs 0 0 Q (F0 m 0 ls []) from ST _ _ hP hS
  clear hP hS
  intro H locs hP hS
  refine lv_iconst (v := iI 0) hx hb dX13_canBeSet_0 rfl ?_
  refine lv_istore_n (lv' := [(3, .int (iI 0)), (0, .ref (ad 0)), (1, .int (iI p1)), (2, .int (iI p2))]) hx hb dX13_canBeSet_1 rfl hl (by decide) rfl (fun ls hl => ?_)
  have L2 : ∀ (n2 : Nat) (v3_2 : Int) (a_2 : Nat → Int → Int) (H : Heap) (locs : List Loc) (ls : Array Slot), (0 ≤ v3_2 ∧ v3_2 ≤ 2147483647) → (mI g a_2) → (∀ j, j ∉ ([62, 63, 64] : List Nat) → a_2 j = a j) → (0 < (n2 : Int) ∧ p2 - v3_2 < (n2 : Int)) → va_P (dC, dI) vwCl (mG ad ca g a_2) H → va_D A (mG ad ca g a_2) → va_S A s.heap H locs → lv_has ls 5 [(3, .int (iI v3_2)), (0, .ref (ad 0)), (1, .int (iI p1)), (2, .int (iI p2))] → W p l e ({ frames := 8, cells := 0, slots := 0, locals := 195 }) s m ([.ref (ad 0), .int (iI p1), .int (iI p2)] : List Value).toArray below meth c H locs 0 0 Q (F0 m 2 ls []) := by
    intro n2
    induction n2 with
    | zero =>
      intro v3_2 a_2 H locs ls h_1 hI haA hm2 hP hD hS hl
      exfalso; omega
    | succ n2 ih2 =>
      intro v3_2 a_2 H locs ls h_2 hI haA hm2 hP hD hS hl
      refine lv_iload_n hx hb dX13_canBeSet_2 rfl (lv_at hl 0 rfl) ?_
      refine lv_iload_n hx hb dX13_canBeSet_3 rfl (lv_at hl 3 rfl) ?_
      refine xr_icmp_ge (tgt := 83) hx hb dX13_canBeSet_4 (by decide) (by omega) (by omega) (fun h_3 => ?_) (fun h_3 => ?_)
      · refine lv_iconst (v := iI 1) hx hb dX13_canBeSet_83 rfl ?_
        rw [← hQ]
        exact W.zret (v := iI 1) (ty := .boolean) hx hb hr (nb_bool (by omega) (by omega)) (fun t ht hW => ⟨⟨iI 1, (g, a_2), rfl, ⟨1, rfl, rfl, hI, haA, by omega⟩, by rw [ht]; exact hP, va_K.moved hW.alike hK, hD⟩, hS.F ht⟩) hS.2.2 dX13_canBeSet_84
      · refine lv_aload_n hx hb dX13_canBeSet_7 rfl (lv_at hl 1 rfl) ?_
        refine gf_order hx hb hj hown hK hP dX13_canBeSet_8 ?_
        refine lv_iload_n hx hb dX13_canBeSet_11 rfl (lv_at hl 0 rfl) ?_
        refine ld_order hx hb hK hP hI (by omega) (by omega) dX13_canBeSet_12 (fun h_4 => ?_)
        refine lv_istore (lv' := [(4, .int (iI (a_2 67 v3_2))), (3, .int (iI v3_2)), (0, .ref (ad 0)), (1, .int (iI p1)), (2, .int (iI p2))]) hx hb dX13_canBeSet_13 hl (by decide) rfl (fun ls hl => ?_)
        refine lv_aload_n hx hb dX13_canBeSet_15 rfl (lv_at hl 2 rfl) ?_
        refine gf_kind hx hb hj hown hK hP dX13_canBeSet_16 ?_
        refine lv_iload hx hb dX13_canBeSet_19 (lv_at hl 0 rfl) ?_
        refine ld_kind hx hb hK hP hI (by omega) (by omega) dX13_canBeSet_21 (fun h_5 => ?_)
        have J77 : ∀ (a_77 : Nat → Int → Int) (H : Heap) (locs : List Loc) (ls : Array Slot), (mI g a_77) → (∀ j, j ∉ ([62, 63, 64] : List Nat) → a_77 j = a j) → va_P (dC, dI) vwCl (mG ad ca g a_77) H → va_D A (mG ad ca g a_77) → va_S A s.heap H locs → lv_has ls 5 [(4, .int (iI (a_2 67 v3_2))), (3, .int (iI v3_2)), (0, .ref (ad 0)), (1, .int (iI p1)), (2, .int (iI p2))] → W p l e ({ frames := 8, cells := 0, slots := 0, locals := 195 }) s m ([.ref (ad 0), .int (iI p1), .int (iI p2)] : List Value).toArray below meth c H locs 0 0 Q (F0 m 77 ls []) := by
          intro a_77 H locs ls hI haA hP hD hS hl
          refine lv_iinc (v := iI (v3_2 + 1)) (lv' := [(3, .int (iI (v3_2 + 1))), (4, .int (iI (a_2 67 v3_2))), (0, .ref (ad 0)), (1, .int (iI p1)), (2, .int (iI p2))]) hx hb dX13_canBeSet_77 hl (k := 1) rfl (iI_add _ _) (by decide) rfl (fun ls hl => ?_)
          refine lv_goto (tgt := 2) hx hb dX13_canBeSet_80 (by decide) ?_
          exact ih2 (v3_2 + 1) a_77 H locs ls (by omega) hI haA (by omega) hP hD hS (lv_sub hl [0, 2, 3, 4] rfl)
        refine xr_if_ne (tgt := 77) hx hb dX13_canBeSet_22 (by decide) (by omega) (fun h_6 => ?_) (fun h_6 => ?_)
        · exact J77 a_2 H locs ls hI haA hP hD hS hl
        · refine lv_aload_n hx hb dX13_canBeSet_25 rfl (lv_at hl 2 rfl) ?_
          refine gf_isStruck hx hb hj hown hK hP dX13_canBeSet_26 ?_
          refine lv_iload hx hb dX13_canBeSet_29 (lv_at hl 0 rfl) ?_
          refine ld_isStruck hx hb hK hP hI (by omega) (by omega) dX13_canBeSet_31 (fun h_7 => ?_)
          refine xr_if_eq (tgt := 38) hx hb dX13_canBeSet_32 (by decide) (by omega) (fun h_8 => ?_) (fun h_8 => ?_)
          · refine lv_aload_n hx hb dX13_canBeSet_38 rfl (lv_at hl 2 rfl) ?_
            refine lv_iload hx hb dX13_canBeSet_39 (lv_at hl 0 rfl) ?_
            refine jc_i (va_runV (As := [.int (iI (a_2 67 v3_2))]) (rest := []) ⟨hx, hb, hml, hown, hts⟩ (sX13_isDone l dC dI _ ad ca g a_2 (a_2 67 v3_2) hI (by omega) (by omega)) (cwV 1 hts (jgoodV m_263 m_376 m_377 m_503 m_154) rfl rfl rfl (by decide +kernel) ⟨(Nat.le_of_ble_eq_true rfl), (Nat.le_of_ble_eq_true rfl)⟩) ⟨jw_blind, va_recv hK hP (ci := 13) (q0 := 0) rfl rfl, fun U hU hW => ⟨rfl, jw_of hU hW hP hK hD⟩⟩ rfl rfl hl.1 rfl (lv_room (Nat.le_of_ble_eq_true rfl)) dX13_canBeSet_41 ⟨(Nat.le_of_ble_eq_true rfl), (Nat.le_of_ble_eq_true rfl)⟩) hP hS hA (fun r_9 H locs w_10 hP hS => ?_)
            obtain ⟨z_11, rfl, h_12⟩ := w_10
            refine xr_if_ne (tgt := 49) hx hb dX13_canBeSet_44 (by decide) (by omega) (fun h_13 => ?_) (fun h_13 => ?_)
            · refine lv_aload_n hx hb dX13_canBeSet_49 rfl (lv_at hl 2 rfl) ?_
              refine lv_iload hx hb dX13_canBeSet_50 (lv_at hl 0 rfl) ?_
              refine lv_aload_n hx hb dX13_canBeSet_52 rfl (lv_at hl 2 rfl) ?_
              refine gf_givenTo hx hb hj hown hK hP dX13_canBeSet_53 ?_
              refine lv_iload hx hb dX13_canBeSet_56 (lv_at hl 0 rfl) ?_
              refine ld_givenTo hx hb hK hP hI (by omega) (by omega) dX13_canBeSet_58 (fun h_14 => ?_)
              refine jcg_v (va_runV (As := [.int (iI (a_2 67 v3_2)), .int (iI (a_2 32 (a_2 67 v3_2)))]) (rest := []) ⟨hx, hb, hml, hown, hts⟩ (sX13_asks l dC dI _ ad ca g a_2 (a_2 67 v3_2) (a_2 32 (a_2 67 v3_2)) hI (by omega) (by omega) (by omega) (by omega) (rSh_t rfl rfl (haA 9 (by decide)) (haA 10 (by decide)) (haA 11 (by decide)) (haA 12 (by decide)) (haA 16 (by decide)) hrSh)) (cwV 2 hts (jgoodV m_267 m_287 m_288 m_503 m_108) rfl rfl rfl (by decide +kernel) ⟨(Nat.le_of_ble_eq_true rfl), (Nat.le_of_ble_eq_true rfl)⟩) ⟨jw_blind, va_recv hK hP (ci := 13) (q0 := 0) rfl rfl, fun U hU hW => ⟨rfl, jw_of hU hW hP hK hD⟩⟩ rfl rfl hl.1 rfl (lv_room (Nat.le_of_ble_eq_true rfl)) dX13_canBeSet_59 ⟨(Nat.le_of_ble_eq_true rfl), (Nat.le_of_ble_eq_true rfl)⟩) hD hS hA (fun u_20 H locs w_16 hP hK hD hS => ?_)
              obtain ⟨g_18, a_19⟩ := u_20
              obtain ⟨e_22, hI, hfr_21⟩ := w_16
              have hP : va_P (dC, dI) vwCl (mG ad ca g_18 a_19) H := hP
              have hD : va_D A (mG ad ca g_18 a_19) := hD
              have e_22 : g = g_18 := e_22.symm
              subst e_22
              have haA : ∀ j, j ∉ ([62, 63, 64] : List Nat) → a_19 j = a j := fun j h => (hfr_21 j (fun q => h (by first | exact q | (simp only [List.mem_cons, List.not_mem_nil, or_false] at q ⊢ <;> omega)))).trans (haA j h)
              refine lv_aload_n hx hb dX13_canBeSet_62 rfl (lv_at hl 2 rfl) ?_
              refine lv_iconst (v := iI 3) hx hb dX13_canBeSet_63 rfl ?_
              refine lv_iload_n hx hb dX13_canBeSet_64 rfl (lv_at hl 3 rfl) ?_
              refine lv_aload_n hx hb dX13_canBeSet_65 rfl (lv_at hl 2 rfl) ?_
              refine gf_now hx hb hj hown hK hP hI dX13_canBeSet_66 (fun h_23 => ?_)
              refine jcg_i (va_runV (As := [.int (iI 3), .int (iI p1), .int (iI (g 30))]) (rest := []) ⟨hx, hb, hml, hown, hts⟩ (sX13_tells l dC dI _ ad ca g a_19 3 p1 (g 30) hI (by omega) (by omega) (by omega) (by omega) (rSh_t rfl rfl (haA 9 (by decide)) (haA 10 (by decide)) (haA 11 (by decide)) (haA 12 (by decide)) (haA 16 (by decide)) hrSh)) (cwV 3 hts (jgoodV m_249 m_484 m_485 m_503 m_210) rfl rfl rfl (by decide +kernel) ⟨(Nat.le_of_ble_eq_true rfl), (Nat.le_of_ble_eq_true rfl)⟩) ⟨jw_blind, va_recv hK hP (ci := 13) (q0 := 0) rfl rfl, fun U hU hW => ⟨rfl, jw_of hU hW hP hK hD⟩⟩ rfl rfl hl.1 rfl (lv_room (Nat.le_of_ble_eq_true rfl)) dX13_canBeSet_69 ⟨(Nat.le_of_ble_eq_true rfl), (Nat.le_of_ble_eq_true rfl)⟩) hD hS hA (fun r_24 u_30 H locs w_25 hP hK hD hS => ?_)
              obtain ⟨g_28, a_29⟩ := u_30
              obtain ⟨z_26, rfl, e_32, hI, hfr_31, h_27⟩ := w_25
              have hP : va_P (dC, dI) vwCl (mG ad ca g_28 a_29) H := hP
              have hD : va_D A (mG ad ca g_28 a_29) := hD
              have e_32 : g = g_28 := e_32.symm
              subst e_32
              have haA : ∀ j, j ∉ ([62, 63, 64] : List Nat) → a_29 j = a j := fun j h => (hfr_31 j (fun q => h (by first | exact q | (simp only [List.mem_cons, List.not_mem_nil, or_false] at q ⊢ <;> omega)))).trans (haA j h)
              refine xr_if_ne (tgt := 77) hx hb dX13_canBeSet_72 (by decide) (by omega) (fun h_33 => ?_) (fun h_33 => ?_)
              · exact J77 a_29 H locs ls hI haA hP hD hS hl
              · refine lv_iconst (v := iI 0) hx hb dX13_canBeSet_75 rfl ?_
                rw [← hQ]
                exact W.zret (v := iI 0) (ty := .boolean) hx hb hr (nb_bool (by omega) (by omega)) (fun t ht hW => ⟨⟨iI 0, (g, a_29), rfl, ⟨0, rfl, rfl, hI, haA, by omega⟩, by rw [ht]; exact hP, va_K.moved hW.alike hK, hD⟩, hS.F ht⟩) hS.2.2 dX13_canBeSet_76
            · refine lv_iconst (v := iI 0) hx hb dX13_canBeSet_47 rfl ?_
              rw [← hQ]
              exact W.zret (v := iI 0) (ty := .boolean) hx hb hr (nb_bool (by omega) (by omega)) (fun t ht hW => ⟨⟨iI 0, (g, a_2), rfl, ⟨0, rfl, rfl, hI, haA, by omega⟩, by rw [ht]; exact hP, va_K.moved hW.alike hK, hD⟩, hS.F ht⟩) hS.2.2 dX13_canBeSet_48
          · refine lv_goto (tgt := 77) hx hb dX13_canBeSet_35 (by decide) ?_
            exact J77 a_2 H locs ls hI haA hP hD hS hl
  exact L2 (((p2 - 0 : Int)).toNat + 1) 0 a H locs ls (by omega) hI haA (by omega) hP hD hS hl
set_option maxHeartbeats 2000000 in
set_option maxRecDepth 100000 in
theorem sX13_set (l : Launch) (dC : Nat → ClassId) (dI : Nat → Nat → Nat) (sz : Nat) (ad : Nat → Nat) (ca : Nat → ClassId) (g : Nat → Int) (a : Nat → Int → Int) (p1 : Int) (hI : mI g a) (q1 : rg p1) (hrSh : rSh g a) : Met l yX13_set (jk yX13_set cX13_set 8 (some .int)) ({ frames := 9, cells := 0, slots := 0, locals := 219 }) (va_Pc [.ref (ad 0), .int (iI p1)] (jw_P (dC, dI) (mG ad ca g a) (mT ca) sz)) (va_Qi (fun (r : Int32) (u : (Nat → Int) × (Nat → Int → Int)) => ∃ z : Int, r = iI z ∧ (u.1 = g) ∧ (mI u.1 u.2) ∧ (∀ j, j ∉ ([20, 21, 22, 23, 24, 35, 36, 49, 50, 62, 63, 64, 65, 67] : List Nat) → u.2 j = a j) ∧ (rg z)) (fun u t => va_P (dC, dI) vwCl (mG ad ca u.1 u.2) t.heap ∧ va_K (dC, dI) vwCl (mT ca) t ∧ va_D (va_A (mG ad ca g a) sz) (mG ad ca u.1 u.2)) (va_A (mG ad ca g a) sz)) 0 0 (va_A (mG ad ca g a) sz) := by
  refine Met.ofW (cc := cX13_set) (maxL := 8) (ret := (some .int)) (by decide) rfl ?_
  intro p e s m args below meth c s₁ B hml hv
  obtain ⟨rfl, hsz, hP, hK, hD0⟩ := hv
  have hx := B.exec
  have hb := B.bytes
  have hr := B.returns
  have hts := atoms_spec (ws := (jk yX13_set cX13_set 8 (some .int))) B.pre
  have hj : ∀ w ∈ jw, w.before ([.ref (ad 0), .int (iI p1)] : List Value).toArray s = true := fun w h => hts w (jm h)
  have hown : s.vm.findClass RX13 = some m.cls := findClass_of_methodNamed B.named
  subst hsz
  have hD := hD0.self (sz := s.heap.size)
  generalize hAe : (va_A (mG ad ca g a) s.heap.size) = A at hD ⊢
  have hA : ∀ q : Nat, s.heap.size ≤ q → A q := fun q h => by rw [← hAe]; exact Or.inr h
  have hS : va_S A s.heap s.heap [] := va_S.rf
  have hP : va_P (dC, dI) vwCl (mG ad ca g a) s.heap := hP
  have haA : ∀ j, j ∉ ([20, 21, 22, 23, 24, 35, 36, 49, 50, 62, 63, 64, 65, 67] : List Nat) → a j = a j := fun _ _ => rfl
  have hl := lv_entry ([.ref (ad 0), .int (iI p1)]) (n := 8) (Nat.le_of_ble_eq_true rfl)
  rw [lg_entry_eq]
  generalize (lg_sl ([.ref (ad 0), .int (iI p1)]) ++ List.replicate (8 - (lg_sl ([.ref (ad 0), .int (iI p1)])).length) Slot.unset).toArray = ls at hl ⊢
  have hl : lv_has ls 8 [(0, .ref (ad 0)), (1, .int (iI p1))] := hl
  generalize hQ : MQ below (va_Qi (fun (r : Int32) (u : (Nat → Int) × (Nat → Int → Int)) => ∃ z : Int, r = iI z ∧ (u.1 = g) ∧ (mI u.1 u.2) ∧ (∀ j, j ∉ ([20, 21, 22, 23, 24, 35, 36, 49, 50, 62, 63, 64, 65, 67] : List Nat) → u.2 j = a j) ∧ (rg z)) (fun u t => va_P (dC, dI) vwCl (mG ad ca u.1 u.2) t.heap ∧ va_K (dC, dI) vwCl (mT ca) t ∧ va_D A (mG ad ca u.1 u.2)) A) ([.ref (ad 0), .int (iI p1)] : List Value).toArray s 0 0 A = Q
  suffices ST : ∀ (H : Heap) (locs : List Loc), va_P (dC, dI) vwCl (mG ad ca g a) H → va_S A s.heap H locs → W p l e ({ frames := 9, cells := 0, slots := 0, locals := 219 }) s m ([.ref (ad 0), .int (iI p1)] : List Value).toArray below meth c H locs 0 0 Q (F0 m 0 ls []) from ST _ _ hP hS
  clear hP hS
  intro H locs hP hS
  refine lv_iload_n hx hb dX13_set_0 rfl (lv_at hl 1 rfl) ?_
  refine jc_i (va_runS (As := [.int (iI p1)]) (rest := []) ⟨hx, hb, hml, hown, hts⟩ (sX13_isVolume l dC dI _ p1 (by omega)) (va_cwS 1 hts (jgoodS m_243 m_395 m_503 m_164) rfl rfl rfl (by decide +kernel) ⟨(Nat.le_of_ble_eq_true rfl), (Nat.le_of_ble_eq_true rfl)⟩) ⟨jw_blind0, fun U hU hW => ⟨rfl, congrArg Array.size hU⟩⟩ rfl rfl hl.1 rfl (lv_room (Nat.le_of_ble_eq_true rfl)) dX13_set_1 ⟨(Nat.le_of_ble_eq_true rfl), (Nat.le_of_ble_eq_true rfl)⟩) hP hS hA (fun r_1 H locs w_2 hP hS => ?_)
  obtain ⟨z_3, rfl, h_4, h_5⟩ := w_2
  refine xr_if_eq (tgt := 16) hx hb dX13_set_4 (by decide) (by omega) (fun h_6 => ?_) (fun h_6 => ?_)
  · refine lv_iconst (v := iI (-1)) hx hb dX13_set_16 rfl ?_
    rw [← hQ]
    exact W.iret (v := iI (-1)) hx hb hr (fun t ht hW => ⟨⟨iI (-1), (g, a), rfl, ⟨(-1), rfl, rfl, hI, haA, by omega⟩, by rw [ht]; exact hP, va_K.moved hW.alike hK, hD⟩, hS.F ht⟩) hS.2.2 dX13_set_17
  · refine lv_aload_n hx hb dX13_set_7 rfl (lv_at hl 0 rfl) ?_
    refine gf_isSet hx hb hj hown hK hP dX13_set_8 ?_
    refine lv_iload_n hx hb dX13_set_11 rfl (lv_at hl 1 rfl) ?_
    refine ld_isSet hx hb hK hP hI (by omega) (by omega) dX13_set_12 (fun h_7 => ?_)
    refine xr_if_eq (tgt := 18) hx hb dX13_set_13 (by decide) (by omega) (fun h_8 => ?_) (fun h_8 => ?_)
    · refine lv_aload_n hx hb dX13_set_18 rfl (lv_at hl 0 rfl) ?_
      refine lv_iload_n hx hb dX13_set_19 rfl (lv_at hl 1 rfl) ?_
      refine jcg_i (va_runV (As := [.int (iI p1)]) (rest := []) ⟨hx, hb, hml, hown, hts⟩ (sX13_orders l dC dI _ ad ca g a p1 hI (by omega) (by omega) hrSh) (cwV 1 hts (jgoodV m_260 m_436 m_437 m_503 m_186) rfl rfl rfl (by decide +kernel) ⟨(Nat.le_of_ble_eq_true rfl), (Nat.le_of_ble_eq_true rfl)⟩) ⟨jw_blind, va_recv hK hP (ci := 13) (q0 := 0) rfl rfl, fun U hU hW => ⟨rfl, jw_of hU hW hP hK hD⟩⟩ rfl rfl hl.1 rfl (lv_room (Nat.le_of_ble_eq_true rfl)) dX13_set_20 ⟨(Nat.le_of_ble_eq_true rfl), (Nat.le_of_ble_eq_true rfl)⟩) hD hS hA (fun r_9 u_15 H locs w_10 hP hK hD hS => ?_)
      obtain ⟨g_13, a_14⟩ := u_15
      obtain ⟨z_11, rfl, e_17, hI, hfr_16, h_12⟩ := w_10
      have hP : va_P (dC, dI) vwCl (mG ad ca g_13 a_14) H := hP
      have hD : va_D A (mG ad ca g_13 a_14) := hD
      have e_17 : g = g_13 := e_17.symm
      subst e_17
      have haA : ∀ j, j ∉ ([20, 21, 22, 23, 24, 35, 36, 49, 50, 62, 63, 64, 65, 67] : List Nat) → a_14 j = a j := fun j h => (hfr_16 j (fun q => h (by first | exact q | (simp only [List.mem_cons, List.not_mem_nil, or_false] at q ⊢ <;> omega)))).trans (haA j h)
      refine lv_istore_n (lv' := [(2, .int (iI z_11)), (0, .ref (ad 0)), (1, .int (iI p1))]) hx hb dX13_set_23 rfl hl (by decide) rfl (fun ls hl => ?_)
      refine lv_aload_n hx hb dX13_set_24 rfl (lv_at hl 1 rfl) ?_
      refine lv_iload_n hx hb dX13_set_25 rfl (lv_at hl 2 rfl) ?_
      refine lv_iload_n hx hb dX13_set_26 rfl (lv_at hl 0 rfl) ?_
      refine jcg_i (va_runV (As := [.int (iI p1), .int (iI z_11)]) (rest := []) ⟨hx, hb, hml, hown, hts⟩ (sX13_canBeSet l dC dI _ ad ca g a_14 p1 z_11 hI (by omega) (by omega) (by omega) (rSh_t rfl rfl (haA 9 (by decide)) (haA 10 (by decide)) (haA 11 (by decide)) (haA 12 (by decide)) (haA 16 (by decide)) hrSh)) (cwV 2 hts (jgoodV m_276 m_304 m_305 m_503 m_117) rfl rfl rfl (by decide +kernel) ⟨(Nat.le_of_ble_eq_true rfl), (Nat.le_of_ble_eq_true rfl)⟩) ⟨jw_blind, va_recv hK hP (ci := 13) (q0 := 0) rfl rfl, fun U hU hW => ⟨rfl, jw_of hU hW hP hK hD⟩⟩ rfl rfl hl.1 rfl (lv_room (Nat.le_of_ble_eq_true rfl)) dX13_set_27 ⟨(Nat.le_of_ble_eq_true rfl), (Nat.le_of_ble_eq_true rfl)⟩) hD hS hA (fun r_18 u_24 H locs w_19 hP hK hD hS => ?_)
      obtain ⟨g_22, a_23⟩ := u_24
      obtain ⟨z_20, rfl, e_26, hI, hfr_25, h_21⟩ := w_19
      have hP : va_P (dC, dI) vwCl (mG ad ca g_22 a_23) H := hP
      have hD : va_D A (mG ad ca g_22 a_23) := hD
      have e_26 : g = g_22 := e_26.symm
      subst e_26
      have haA : ∀ j, j ∉ ([20, 21, 22, 23, 24, 35, 36, 49, 50, 62, 63, 64, 65, 67] : List Nat) → a_23 j = a j := fun j h => (hfr_25 j (fun q => h (by first | exact q | (simp only [List.mem_cons, List.not_mem_nil, or_false] at q ⊢ <;> omega)))).trans (haA j h)
      refine xr_if_ne (tgt := 35) hx hb dX13_set_30 (by decide) (by omega) (fun h_27 => ?_) (fun h_27 => ?_)
      · refine lv_iconst (v := iI 0) hx hb dX13_set_35 rfl ?_
        refine lv_istore_n (lv' := [(3, .int (iI 0)), (2, .int (iI z_11)), (0, .ref (ad 0)), (1, .int (iI p1))]) hx hb dX13_set_36 rfl hl (by decide) rfl (fun ls hl => ?_)
        refine lv_iconst (v := iI 0) hx hb dX13_set_37 rfl ?_
        refine lv_istore (lv' := [(4, .int (iI 0)), (3, .int (iI 0)), (2, .int (iI z_11)), (0, .ref (ad 0)), (1, .int (iI p1))]) hx hb dX13_set_38 hl (by decide) rfl (fun ls hl => ?_)
        refine lv_iconst (v := iI 0) hx hb dX13_set_40 rfl ?_
        refine lv_istore (lv' := [(5, .int (iI 0)), (4, .int (iI 0)), (3, .int (iI 0)), (2, .int (iI z_11)), (0, .ref (ad 0)), (1, .int (iI p1))]) hx hb dX13_set_41 hl (by decide) rfl (fun ls hl => ?_)
        have L43 : ∀ (n43 : Nat) (v5_43 v4_43 v3_43 : Int) (a_43 : Nat → Int → Int) (H : Heap) (locs : List Loc) (ls : Array Slot), (0 ≤ v5_43 ∧ v5_43 ≤ 2147483647) → ((-2147483648) ≤ v4_43 ∧ v4_43 ≤ 2147483647) → ((-2147483648) ≤ v3_43 ∧ v3_43 ≤ 2147483647) → (0 ≤ v3_43 ∧ v3_43 ≤ 300 * v5_43 ∧ 0 ≤ v4_43 ∧ v4_43 ≤ 300 * v5_43) → (v5_43 ≤ z_11) → (mI g a_43) → (∀ j, j ∉ ([20, 21, 22, 23, 24, 35, 36, 49, 50, 62, 63, 64, 65, 67] : List Nat) → a_43 j = a j) → (0 < (n43 : Int) ∧ z_11 - v5_43 < (n43 : Int)) → va_P (dC, dI) vwCl (mG ad ca g a_43) H → va_D A (mG ad ca g a_43) → va_S A s.heap H locs → lv_has ls 8 [(5, .int (iI v5_43)), (4, .int (iI v4_43)), (3, .int (iI v3_43)), (2, .int (iI z_11)), (0, .ref (ad 0)), (1, .int (iI p1))] → W p l e ({ frames := 9, cells := 0, slots := 0, locals := 219 }) s m ([.ref (ad 0), .int (iI p1)] : List Value).toArray below meth c H locs 0 0 Q (F0 m 43 ls []) := by
          intro n43
          induction n43 with
          | zero =>
            intro v5_43 v4_43 v3_43 a_43 H locs ls h_28 h_29 h_30 h_31 h_32 hI haA hm43 hP hD hS hl
            exfalso; omega
          | succ n43 ih43 =>
            intro v5_43 v4_43 v3_43 a_43 H locs ls h_33 h_34 h_35 h_36 h_37 hI haA hm43 hP hD hS hl
            refine lv_iload hx hb dX13_set_43 (lv_at hl 0 rfl) ?_
            refine lv_iload_n hx hb dX13_set_45 rfl (lv_at hl 3 rfl) ?_
            refine xr_icmp_ge (tgt := 206) hx hb dX13_set_46 (by decide) (by omega) (by omega) (fun h_38 => ?_) (fun h_38 => ?_)
            · refine lv_aload_n hx hb dX13_set_206 rfl (lv_at hl 4 rfl) ?_
              refine gf_isSet hx hb hj hown hK hP dX13_set_207 ?_
              refine lv_iload_n hx hb dX13_set_210 rfl (lv_at hl 5 rfl) ?_
              refine lv_iconst (v := iI 1) hx hb dX13_set_211 rfl ?_
              refine st_isSet hx hb hK hP hD hS hI (by omega) (by omega) (by omega) (by omega) dX13_set_212 (fun a_39 H locs e_40 e_41 hI hP hD hS => ?_)
              have haA : ∀ j, j ∉ ([20, 21, 22, 23, 24, 35, 36, 49, 50, 62, 63, 64, 65, 67] : List Nat) → a_39 j = a j := fun j h => (e_40 j (fun q => h (q ▸ (by decide : 20 ∈ ([20, 21, 22, 23, 24, 35, 36, 49, 50, 62, 63, 64, 65, 67] : List Nat))))).trans (haA j h)
              refine lv_aload_n hx hb dX13_set_213 rfl (lv_at hl 4 rfl) ?_
              refine gf_setIn hx hb hj hown hK hP dX13_set_214 ?_
              refine lv_iload_n hx hb dX13_set_217 rfl (lv_at hl 5 rfl) ?_
              refine lv_aload_n hx hb dX13_set_218 rfl (lv_at hl 4 rfl) ?_
              refine gf_now hx hb hj hown hK hP hI dX13_set_219 (fun h_42 => ?_)
              refine st_setIn hx hb hK hP hD hS hI (by omega) (by omega) (by omega) (by omega) dX13_set_222 (fun a_44 H locs e_45 e_46 hI hP hD hS => ?_)
              have haA : ∀ j, j ∉ ([20, 21, 22, 23, 24, 35, 36, 49, 50, 62, 63, 64, 65, 67] : List Nat) → a_44 j = a j := fun j h => (e_45 j (fun q => h (q ▸ (by decide : 21 ∈ ([20, 21, 22, 23, 24, 35, 36, 49, 50, 62, 63, 64, 65, 67] : List Nat))))).trans (haA j h)
              refine lv_aload_n hx hb dX13_set_223 rfl (lv_at hl 4 rfl) ?_
              refine gf_setMany hx hb hj hown hK hP dX13_set_224 ?_
              refine lv_iload_n hx hb dX13_set_227 rfl (lv_at hl 5 rfl) ?_
              refine lv_iload_n hx hb dX13_set_228 rfl (lv_at hl 3 rfl) ?_
              refine st_setMany hx hb hK hP hD hS hI (by omega) (by omega) (by omega) (by omega) dX13_set_229 (fun a_47 H locs e_48 e_49 hI hP hD hS => ?_)
              have haA : ∀ j, j ∉ ([20, 21, 22, 23, 24, 35, 36, 49, 50, 62, 63, 64, 65, 67] : List Nat) → a_47 j = a j := fun j h => (e_48 j (fun q => h (q ▸ (by decide : 22 ∈ ([20, 21, 22, 23, 24, 35, 36, 49, 50, 62, 63, 64, 65, 67] : List Nat))))).trans (haA j h)
              refine lv_aload_n hx hb dX13_set_230 rfl (lv_at hl 4 rfl) ?_
              refine gf_setLines hx hb hj hown hK hP dX13_set_231 ?_
              refine lv_iload_n hx hb dX13_set_234 rfl (lv_at hl 5 rfl) ?_
              refine lv_iload_n hx hb dX13_set_235 rfl (lv_at hl 2 rfl) ?_
              refine st_setLines hx hb hK hP hD hS hI (by omega) (by omega) (by omega) (by omega) dX13_set_236 (fun a_50 H locs e_51 e_52 hI hP hD hS => ?_)
              have haA : ∀ j, j ∉ ([20, 21, 22, 23, 24, 35, 36, 49, 50, 62, 63, 64, 65, 67] : List Nat) → a_50 j = a j := fun j h => (e_51 j (fun q => h (q ▸ (by decide : 24 ∈ ([20, 21, 22, 23, 24, 35, 36, 49, 50, 62, 63, 64, 65, 67] : List Nat))))).trans (haA j h)
              refine lv_iload_n hx hb dX13_set_237 rfl (lv_at hl 2 rfl) ?_
              refine lv_bipush (v := iI 40) hx hb dX13_set_238 rfl ?_
              refine xr_add hx hb dX13_set_240 ?_
              refine xr_kept (fun z_53 h_54 h_55 => ?_)
              refine lv_iconst (v := iI 1) hx hb dX13_set_241 rfl ?_
              refine xr_sub hx hb dX13_set_242 ?_
              refine xr_kept (fun z_56 h_57 h_58 => ?_)
              refine lv_bipush (v := iI 40) hx hb dX13_set_243 rfl ?_
              refine xr_divA hx hb dX13_set_245 (by omega) (by omega) (fun z_59 h_60 => ?_)
              rw [← hQ]
              exact W.iret (v := iI z_59) hx hb hr (fun t ht hW => ⟨⟨iI z_59, (g, a_50), rfl, ⟨z_59, rfl, rfl, hI, haA, by omega⟩, by rw [ht]; exact hP, va_K.moved hW.alike hK, hD⟩, hS.F ht⟩) hS.2.2 dX13_set_246
            · refine lv_aload_n hx hb dX13_set_49 rfl (lv_at hl 4 rfl) ?_
              refine gf_order hx hb hj hown hK hP dX13_set_50 ?_
              refine lv_iload hx hb dX13_set_53 (lv_at hl 0 rfl) ?_
              refine ld_order hx hb hK hP hI (by omega) (by omega) dX13_set_55 (fun h_61 => ?_)
              refine lv_istore (lv' := [(6, .int (iI (a_43 67 v5_43))), (5, .int (iI v5_43)), (4, .int (iI v4_43)), (3, .int (iI v3_43)), (2, .int (iI z_11)), (0, .ref (ad 0)), (1, .int (iI p1))]) hx hb dX13_set_56 hl (by decide) rfl (fun ls hl => ?_)
              refine lv_aload_n hx hb dX13_set_58 rfl (lv_at hl 5 rfl) ?_
              refine gf_setOrder hx hb hj hown hK hP dX13_set_59 ?_
              refine lv_bipush (v := iI 60) hx hb dX13_set_62 rfl ?_
              refine lv_iload_n hx hb dX13_set_64 rfl (lv_at hl 6 rfl) ?_
              refine xr_mul hx hb dX13_set_65 ?_
              refine xr_kept (fun z_62 h_63 h_64 => ?_)
              refine lv_iload hx hb dX13_set_66 (lv_at hl 1 rfl) ?_
              refine xr_add hx hb dX13_set_68 ?_
              refine xr_kept (fun z_65 h_66 h_67 => ?_)
              refine lv_iload hx hb dX13_set_69 (lv_at hl 0 rfl) ?_
              refine st_setOrder hx hb hK hP hD hS hI (by omega) (by omega) (by omega) (by omega) dX13_set_71 (fun a_68 H locs e_69 e_70 hI hP hD hS => ?_)
              have haA : ∀ j, j ∉ ([20, 21, 22, 23, 24, 35, 36, 49, 50, 62, 63, 64, 65, 67] : List Nat) → a_68 j = a j := fun j h => (e_69 j (fun q => h (q ▸ (by decide : 23 ∈ ([20, 21, 22, 23, 24, 35, 36, 49, 50, 62, 63, 64, 65, 67] : List Nat))))).trans (haA j h)
              refine lv_aload_n hx hb dX13_set_72 rfl (lv_at hl 5 rfl) ?_
              refine gf_setWith hx hb hj hown hK hP dX13_set_73 ?_
              refine lv_iload hx hb dX13_set_76 (lv_at hl 0 rfl) ?_
              refine lv_iload_n hx hb dX13_set_78 rfl (lv_at hl 6 rfl) ?_
              refine st_setWith hx hb hK hP hD hS hI (by omega) (by omega) (by omega) (by omega) dX13_set_79 (fun a_71 H locs e_72 e_73 hI hP hD hS => ?_)
              have haA : ∀ j, j ∉ ([20, 21, 22, 23, 24, 35, 36, 49, 50, 62, 63, 64, 65, 67] : List Nat) → a_71 j = a j := fun j h => (e_72 j (fun q => h (q ▸ (by decide : 35 ∈ ([20, 21, 22, 23, 24, 35, 36, 49, 50, 62, 63, 64, 65, 67] : List Nat))))).trans (haA j h)
              refine lv_aload_n hx hb dX13_set_80 rfl (lv_at hl 5 rfl) ?_
              refine gf_isStruck hx hb hj hown hK hP dX13_set_81 ?_
              refine lv_iload hx hb dX13_set_84 (lv_at hl 0 rfl) ?_
              refine ld_isStruck hx hb hK hP hI (by omega) (by omega) dX13_set_86 (fun h_74 => ?_)
              have J200 : ∀ (v4_200 v3_200 : Int) (a_200 : Nat → Int → Int) (H : Heap) (locs : List Loc) (ls : Array Slot), ((-2147483648) ≤ v4_200 ∧ v4_200 ≤ 2147483647) → ((-2147483648) ≤ v3_200 ∧ v3_200 ≤ 2147483647) → (0 ≤ v3_200 ∧ v3_200 ≤ 300 * v5_43 + 300 ∧ 0 ≤ v4_200 ∧ v4_200 ≤ 300 * v5_43 + 300) → (mI g a_200) → (∀ j, j ∉ ([20, 21, 22, 23, 24, 35, 36, 49, 50, 62, 63, 64, 65, 67] : List Nat) → a_200 j = a j) → va_P (dC, dI) vwCl (mG ad ca g a_200) H → va_D A (mG ad ca g a_200) → va_S A s.heap H locs → lv_has ls 8 [(6, .int (iI (a_43 67 v5_43))), (5, .int (iI v5_43)), (4, .int (iI v4_200)), (3, .int (iI v3_200)), (2, .int (iI z_11)), (0, .ref (ad 0)), (1, .int (iI p1))] → W p l e ({ frames := 9, cells := 0, slots := 0, locals := 219 }) s m ([.ref (ad 0), .int (iI p1)] : List Value).toArray below meth c H locs 0 0 Q (F0 m 200 ls []) := by
                intro v4_200 v3_200 a_200 H locs ls h_75 h_76 h_77 hI haA hP hD hS hl
                refine lv_iinc (v := iI (v5_43 + 1)) (lv' := [(5, .int (iI (v5_43 + 1))), (6, .int (iI (a_43 67 v5_43))), (4, .int (iI v4_200)), (3, .int (iI v3_200)), (2, .int (iI z_11)), (0, .ref (ad 0)), (1, .int (iI p1))]) hx hb dX13_set_200 hl (k := 1) rfl (iI_add _ _) (by decide) rfl (fun ls hl => ?_)
                refine lv_goto (tgt := 43) hx hb dX13_set_203 (by decide) ?_
                exact ih43 (v5_43 + 1) v4_200 v3_200 a_200 H locs ls (by omega) (by omega) (by omega) (by omega) (by omega) hI haA (by omega) hP hD hS (lv_sub hl [0, 2, 3, 4, 5, 6] rfl)
              refine xr_if_eq (tgt := 93) hx hb dX13_set_87 (by decide) (by omega) (fun h_78 => ?_) (fun h_78 => ?_)
              · refine lv_aload_n hx hb dX13_set_93 rfl (lv_at hl 5 rfl) ?_
                refine gf_pageOf hx hb hj hown hK hP dX13_set_94 ?_
                refine lv_iload hx hb dX13_set_97 (lv_at hl 0 rfl) ?_
                refine lv_iconst (v := iI 1) hx hb dX13_set_99 rfl ?_
                refine lv_iload_n hx hb dX13_set_100 rfl (lv_at hl 3 rfl) ?_
                refine lv_bipush (v := iI 40) hx hb dX13_set_101 rfl ?_
                refine xr_divA hx hb dX13_set_103 (by omega) (by omega) (fun z_79 h_80 => ?_)
                refine xr_add hx hb dX13_set_104 ?_
                refine xr_kept (fun z_81 h_82 h_83 => ?_)
                refine sa_pageOf hx hb hK hP hD hS hI (by omega) (by omega) dX13_set_105 (fun a_84 z_87 H locs h_88 h_89 e_85 e_86 hI hP hD hS => ?_)
                have haA : ∀ j, j ∉ ([20, 21, 22, 23, 24, 35, 36, 49, 50, 62, 63, 64, 65, 67] : List Nat) → a_84 j = a j := fun j h => (e_85 j (fun q => h (q ▸ (by decide : 36 ∈ ([20, 21, 22, 23, 24, 35, 36, 49, 50, 62, 63, 64, 65, 67] : List Nat))))).trans (haA j h)
                refine lv_aload_n hx hb dX13_set_106 rfl (lv_at hl 5 rfl) ?_
                refine gf_kind hx hb hj hown hK hP dX13_set_107 ?_
                refine lv_iload hx hb dX13_set_110 (lv_at hl 0 rfl) ?_
                refine ld_kind hx hb hK hP hI (by omega) (by omega) dX13_set_112 (fun h_90 => ?_)
                refine xr_if_eq (tgt := 139) hx hb dX13_set_113 (by decide) (by omega) (fun h_91 => ?_) (fun h_91 => ?_)
                · refine lv_iconst (v := iI 0) hx hb dX13_set_139 rfl ?_
                  refine lv_istore (lv' := [(7, .int (iI 0)), (6, .int (iI (a_43 67 v5_43))), (5, .int (iI v5_43)), (4, .int (iI v4_43)), (3, .int (iI v3_43)), (2, .int (iI z_11)), (0, .ref (ad 0)), (1, .int (iI p1))]) hx hb dX13_set_140 hl (by decide) rfl (fun ls hl => ?_)
                  have L142 : ∀ (n142 : Nat) (v7_142 v4_142 v3_142 : Int) (a_142 : Nat → Int → Int) (H : Heap) (locs : List Loc) (ls : Array Slot), (0 ≤ v7_142 ∧ v7_142 ≤ 2147483647) → ((-2147483648) ≤ v4_142 ∧ v4_142 ≤ 2147483647) → ((-2147483648) ≤ v3_142 ∧ v3_142 ≤ 2147483647) → (0 ≤ v3_142 ∧ v3_142 ≤ 300 * v5_43 + v7_142 ∧ 0 ≤ v4_142 ∧ v4_142 ≤ 300 * v5_43 + v7_142) → (v7_142 ≤ 300) → (mI g a_142) → (∀ j, j ∉ ([20, 21, 22, 23, 24, 35, 36, 49, 50, 62, 63, 64, 65, 67] : List Nat) → a_142 j = a j) → (0 < (n142 : Int) ∧ (g 56) - v7_142 < (n142 : Int)) → va_P (dC, dI) vwCl (mG ad ca g a_142) H → va_D A (mG ad ca g a_142) → va_S A s.heap H locs → lv_has ls 8 [(7, .int (iI v7_142)), (6, .int (iI (a_43 67 v5_43))), (5, .int (iI v5_43)), (4, .int (iI v4_142)), (3, .int (iI v3_142)), (2, .int (iI z_11)), (0, .ref (ad 0)), (1, .int (iI p1))] → W p l e ({ frames := 9, cells := 0, slots := 0, locals := 219 }) s m ([.ref (ad 0), .int (iI p1)] : List Value).toArray below meth c H locs 0 0 Q (F0 m 142 ls []) := by
                    intro n142
                    induction n142 with
                    | zero =>
                      intro v7_142 v4_142 v3_142 a_142 H locs ls h_92 h_93 h_94 h_95 h_96 hI haA hm142 hP hD hS hl
                      exfalso; omega
                    | succ n142 ih142 =>
                      intro v7_142 v4_142 v3_142 a_142 H locs ls h_97 h_98 h_99 h_100 h_101 hI haA hm142 hP hD hS hl
                      refine lv_iload hx hb dX13_set_142 (lv_at hl 0 rfl) ?_
                      refine lv_aload_n hx hb dX13_set_144 rfl (lv_at hl 6 rfl) ?_
                      refine gf_lines hx hb hj hown hK hP hI dX13_set_145 (fun h_102 => ?_)
                      refine xr_icmp_ge (tgt := 200) hx hb dX13_set_148 (by decide) (by omega) (by omega) (fun h_103 => ?_) (fun h_103 => ?_)
                      · exact J200 v4_142 v3_142 a_142 H locs ls (by omega) (by omega) (by omega) hI haA hP hD hS (lv_sub hl [1, 2, 3, 4, 5, 6, 7] rfl)
                      · refine lv_aload_n hx hb dX13_set_151 rfl (lv_at hl 6 rfl) ?_
                        refine gf_lineOf hx hb hj hown hK hP dX13_set_152 ?_
                        refine lv_iload hx hb dX13_set_155 (lv_at hl 0 rfl) ?_
                        refine ld_lineOf hx hb hK hP hI (by omega) (by omega) dX13_set_157 (fun h_104 => ?_)
                        refine lv_iload hx hb dX13_set_158 (lv_at hl 1 rfl) ?_
                        have J194 : ∀ (v4_194 v3_194 : Int) (a_194 : Nat → Int → Int) (H : Heap) (locs : List Loc) (ls : Array Slot), ((-2147483648) ≤ v4_194 ∧ v4_194 ≤ 2147483647) → ((-2147483648) ≤ v3_194 ∧ v3_194 ≤ 2147483647) → (0 ≤ v3_194 ∧ v3_194 ≤ 300 * v5_43 + v7_142 + 1 ∧ 0 ≤ v4_194 ∧ v4_194 ≤ 300 * v5_43 + v7_142 + 1) → (mI g a_194) → (∀ j, j ∉ ([20, 21, 22, 23, 24, 35, 36, 49, 50, 62, 63, 64, 65, 67] : List Nat) → a_194 j = a j) → va_P (dC, dI) vwCl (mG ad ca g a_194) H → va_D A (mG ad ca g a_194) → va_S A s.heap H locs → lv_has ls 8 [(7, .int (iI v7_142)), (6, .int (iI (a_43 67 v5_43))), (5, .int (iI v5_43)), (4, .int (iI v4_194)), (3, .int (iI v3_194)), (2, .int (iI z_11)), (0, .ref (ad 0)), (1, .int (iI p1))] → W p l e ({ frames := 9, cells := 0, slots := 0, locals := 219 }) s m ([.ref (ad 0), .int (iI p1)] : List Value).toArray below meth c H locs 0 0 Q (F0 m 194 ls []) := by
                          intro v4_194 v3_194 a_194 H locs ls h_105 h_106 h_107 hI haA hP hD hS hl
                          refine lv_iinc (v := iI (v7_142 + 1)) (lv' := [(7, .int (iI (v7_142 + 1))), (6, .int (iI (a_43 67 v5_43))), (5, .int (iI v5_43)), (4, .int (iI v4_194)), (3, .int (iI v3_194)), (2, .int (iI z_11)), (0, .ref (ad 0)), (1, .int (iI p1))]) hx hb dX13_set_194 hl (k := 0) rfl (iI_add _ _) (by decide) rfl (fun ls hl => ?_)
                          refine lv_goto (tgt := 142) hx hb dX13_set_197 (by decide) ?_
                          exact ih142 (v7_142 + 1) v4_194 v3_194 a_194 H locs ls (by omega) (by omega) (by omega) (by omega) (by omega) hI haA (by omega) hP hD hS hl
                        refine xr_icmp_eq (tgt := 166) hx hb dX13_set_160 (by decide) (by omega) (by omega) (fun h_108 => ?_) (fun h_108 => ?_)
                        · refine lv_aload_n hx hb dX13_set_166 rfl (lv_at hl 6 rfl) ?_
                          refine gf_linePage hx hb hj hown hK hP dX13_set_167 ?_
                          refine lv_iload hx hb dX13_set_170 (lv_at hl 0 rfl) ?_
                          refine lv_iconst (v := iI 1) hx hb dX13_set_172 rfl ?_
                          refine lv_iload_n hx hb dX13_set_173 rfl (lv_at hl 4 rfl) ?_
                          refine lv_bipush (v := iI 40) hx hb dX13_set_174 rfl ?_
                          refine xr_divA hx hb dX13_set_176 (by omega) (by omega) (fun z_109 h_110 => ?_)
                          refine xr_add hx hb dX13_set_177 ?_
                          refine xr_kept (fun z_111 h_112 h_113 => ?_)
                          refine sa_linePage hx hb hK hP hD hS hI (by omega) (by omega) dX13_set_178 (fun a_114 z_117 H locs h_118 h_119 e_115 e_116 hI hP hD hS => ?_)
                          have haA : ∀ j, j ∉ ([20, 21, 22, 23, 24, 35, 36, 49, 50, 62, 63, 64, 65, 67] : List Nat) → a_114 j = a j := fun j h => (e_115 j (fun q => h (q ▸ (by decide : 49 ∈ ([20, 21, 22, 23, 24, 35, 36, 49, 50, 62, 63, 64, 65, 67] : List Nat))))).trans (haA j h)
                          refine lv_aload_n hx hb dX13_set_179 rfl (lv_at hl 6 rfl) ?_
                          refine gf_linePlace hx hb hj hown hK hP dX13_set_180 ?_
                          refine lv_iload hx hb dX13_set_183 (lv_at hl 0 rfl) ?_
                          refine lv_iload hx hb dX13_set_185 (lv_at hl 3 rfl) ?_
                          refine sa_linePlace hx hb hK hP hD hS hI (by omega) (by omega) dX13_set_187 (fun a_120 z_123 H locs h_124 h_125 e_121 e_122 hI hP hD hS => ?_)
                          have haA : ∀ j, j ∉ ([20, 21, 22, 23, 24, 35, 36, 49, 50, 62, 63, 64, 65, 67] : List Nat) → a_120 j = a j := fun j h => (e_121 j (fun q => h (q ▸ (by decide : 50 ∈ ([20, 21, 22, 23, 24, 35, 36, 49, 50, 62, 63, 64, 65, 67] : List Nat))))).trans (haA j h)
                          refine lv_iinc (v := iI (v4_142 + 1)) (lv' := [(4, .int (iI (v4_142 + 1))), (7, .int (iI v7_142)), (6, .int (iI (a_43 67 v5_43))), (5, .int (iI v5_43)), (3, .int (iI v3_142)), (2, .int (iI z_11)), (0, .ref (ad 0)), (1, .int (iI p1))]) hx hb dX13_set_188 hl (k := 3) rfl (iI_add _ _) (by decide) rfl (fun ls hl => ?_)
                          refine lv_iinc (v := iI (v3_142 + 1)) (lv' := [(3, .int (iI (v3_142 + 1))), (4, .int (iI (v4_142 + 1))), (7, .int (iI v7_142)), (6, .int (iI (a_43 67 v5_43))), (5, .int (iI v5_43)), (2, .int (iI z_11)), (0, .ref (ad 0)), (1, .int (iI p1))]) hx hb dX13_set_191 hl (k := 4) rfl (iI_add _ _) (by decide) rfl (fun ls hl => ?_)
                          exact J194 (v4_142 + 1) (v3_142 + 1) a_120 H locs ls (by omega) (by omega) (by omega) hI haA hP hD hS (lv_sub hl [2, 3, 4, 1, 0, 5, 6, 7] rfl)
                        · refine lv_goto (tgt := 194) hx hb dX13_set_163 (by decide) ?_
                          exact J194 v4_142 v3_142 a_142 H locs ls (by omega) (by omega) (by omega) hI haA hP hD hS hl
                  exact L142 ((((g 56) - 0 : Int)).toNat + 1) 0 v4_43 v3_43 a_84 H locs ls (by omega) (by omega) (by omega) (by omega) (by omega) hI haA (by omega) hP hD hS hl
                · refine lv_iload_n hx hb dX13_set_116 rfl (lv_at hl 3 rfl) ?_
                  refine lv_aload_n hx hb dX13_set_117 rfl (lv_at hl 5 rfl) ?_
                  refine gf_kind hx hb hj hown hK hP dX13_set_118 ?_
                  refine lv_iload hx hb dX13_set_121 (lv_at hl 0 rfl) ?_
                  refine ld_kind hx hb hK hP hI (by omega) (by omega) dX13_set_123 (fun h_126 => ?_)
                  refine lv_iconst (v := iI 1) hx hb dX13_set_124 rfl ?_
                  have J134 : ∀ (s0_134 : Int) (H : Heap) (locs : List Loc) (ls : Array Slot), (1 ≤ s0_134 ∧ s0_134 ≤ 10) → va_P (dC, dI) vwCl (mG ad ca g a_84) H → va_D A (mG ad ca g a_84) → va_S A s.heap H locs → lv_has ls 8 [(6, .int (iI (a_43 67 v5_43))), (5, .int (iI v5_43)), (4, .int (iI v4_43)), (3, .int (iI v3_43)), (2, .int (iI z_11)), (0, .ref (ad 0)), (1, .int (iI p1))] → W p l e ({ frames := 9, cells := 0, slots := 0, locals := 219 }) s m ([.ref (ad 0), .int (iI p1)] : List Value).toArray below meth c H locs 0 0 Q (F0 m 134 ls [.int (iI s0_134), .int (iI v3_43)]) := by
                    intro s0_134 H locs ls h_127 hP hD hS hl
                    refine xr_add hx hb dX13_set_134 ?_
                    refine xr_kept (fun z_128 h_129 h_130 => ?_)
                    refine lv_istore_n (lv' := [(3, .int (iI z_128)), (6, .int (iI (a_43 67 v5_43))), (5, .int (iI v5_43)), (4, .int (iI v4_43)), (2, .int (iI z_11)), (0, .ref (ad 0)), (1, .int (iI p1))]) hx hb dX13_set_135 rfl hl (by decide) rfl (fun ls hl => ?_)
                    refine lv_goto (tgt := 200) hx hb dX13_set_136 (by decide) ?_
                    exact J200 v4_43 z_128 a_84 H locs ls (by omega) (by omega) (by omega) hI haA hP hD hS (lv_sub hl [1, 2, 3, 0, 4, 5, 6] rfl)
                  refine xr_icmp_ne (tgt := 132) hx hb dX13_set_125 (by decide) (by omega) (by omega) (fun h_131 => ?_) (fun h_131 => ?_)
                  · refine lv_bipush (v := iI 10) hx hb dX13_set_132 rfl ?_
                    exact J134 10 H locs ls (by omega) hP hD hS hl
                  · refine lv_iconst (v := iI 1) hx hb dX13_set_128 rfl ?_
                    refine lv_goto (tgt := 134) hx hb dX13_set_129 (by decide) ?_
                    exact J134 1 H locs ls (by omega) hP hD hS hl
              · refine lv_goto (tgt := 200) hx hb dX13_set_90 (by decide) ?_
                exact J200 v4_43 v3_43 a_71 H locs ls (by omega) (by omega) (by omega) hI haA hP hD hS hl
        exact L43 (((z_11 - 0 : Int)).toNat + 1) 0 0 0 a_23 H locs ls (by omega) (by omega) (by omega) (by omega) (by omega) hI haA (by omega) hP hD hS hl
      · refine lv_iconst (v := iI (-1)) hx hb dX13_set_33 rfl ?_
        rw [← hQ]
        exact W.iret (v := iI (-1)) hx hb hr (fun t ht hW => ⟨⟨iI (-1), (g, a_23), rfl, ⟨(-1), rfl, rfl, hI, haA, by omega⟩, by rw [ht]; exact hP, va_K.moved hW.alike hK, hD⟩, hS.F ht⟩) hS.2.2 dX13_set_34
    · refine lv_iconst (v := iI (-1)) hx hb dX13_set_16 rfl ?_
      rw [← hQ]
      exact W.iret (v := iI (-1)) hx hb hr (fun t ht hW => ⟨⟨iI (-1), (g, a), rfl, ⟨(-1), rfl, rfl, hI, haA, by omega⟩, by rw [ht]; exact hP, va_K.moved hW.alike hK, hD⟩, hS.F ht⟩) hS.2.2 dX13_set_17
