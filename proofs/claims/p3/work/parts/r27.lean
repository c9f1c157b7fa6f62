set_option maxHeartbeats 2000000 in
set_option maxRecDepth 100000 in
theorem sX13_isGone (l : Launch) (dC : Nat → ClassId) (dI : Nat → Nat → Nat) (sz : Nat) (ad : Nat → Nat) (ca : Nat → ClassId) (g : Nat → Int) (a : Nat → Int → Int) (p1 : Int) (hI : mI g a) (q1 : rg p1) (k1 : 0 ≤ p1 ∧ p1 < 60) (hrSh : rSh g a) : Met l yX13_isGone (jk yX13_isGone cX13_isGone 2 (some .boolean)) ({ frames := 7, cells := 0, slots := 0, locals := 172 }) (va_Pc [.ref (ad 0), .int (iI p1)] (jw_P (dC, dI) (mG ad ca g a) (mT ca) sz)) (va_Qi (fun (r : Int32) (u : (Nat → Int) × (Nat → Int → Int)) => ∃ z : Int, r = iI z ∧ (u.1 = g) ∧ (mI u.1 u.2) ∧ (∀ j, j ∉ ([63, 64] : List Nat) → u.2 j = a j) ∧ (0 ≤ z ∧ z ≤ 1)) (fun u t => va_P (dC, dI) vwCl (mG ad ca u.1 u.2) t.heap ∧ va_K (dC, dI) vwCl (mT ca) t ∧ va_D (va_A (mG ad ca g a) sz) (mG ad ca u.1 u.2)) (va_A (mG ad ca g a) sz)) 0 0 (va_A (mG ad ca g a) sz) := by
  refine Met.ofW (cc := cX13_isGone) (maxL := 2) (ret := (some .boolean)) (by decide) rfl ?_
  intro p e s m args below meth c s₁ B hml hv
  obtain ⟨rfl, hsz, hP, hK, hD0⟩ := hv
  have hx := B.exec
  have hb := B.bytes
  have hr := B.returns
  have hts := atoms_spec (ws := (jk yX13_isGone cX13_isGone 2 (some .boolean))) B.pre
  have hj : ∀ w ∈ jw, w.before ([.ref (ad 0), .int (iI p1)] : List Value).toArray s = true := fun w h => hts w (jm h)
  have hown : s.vm.findClass RX13 = some m.cls := findClass_of_methodNamed B.named
  subst hsz
  have hD := hD0.self (sz := s.heap.size)
  generalize hAe : (va_A (mG ad ca g a) s.heap.size) = A at hD ⊢
  have hA : ∀ q : Nat, s.heap.size ≤ q → A q := fun q h => by rw [← hAe]; exact Or.inr h
  have hS : va_S A s.heap s.heap [] := va_S.rf
  have hP : va_P (dC, dI) vwCl (mG ad ca g a) s.heap := hP
  have haA : ∀ j, j ∉ ([63, 64] : List Nat) → a j = a j := fun _ _ => rfl
  have hl := lv_entry ([.ref (ad 0), .int (iI p1)]) (n := 2) (Nat.le_of_ble_eq_true rfl)
  rw [lg_entry_eq]
  generalize (lg_sl ([.ref (ad 0), .int (iI p1)]) ++ List.replicate (2 - (lg_sl ([.ref (ad 0), .int (iI p1)])).length) Slot.unset).toArray = ls at hl ⊢
  have hl : lv_has ls 2 [(0, .ref (ad 0)), (1, .int (iI p1))] := hl
  generalize hQ : MQ below (va_Qi (fun (r : Int32) (u : (Nat → Int) × (Nat → Int → Int)) => ∃ z : Int, r = iI z ∧ (u.1 = g) ∧ (mI u.1 u.2) ∧ (∀ j, j ∉ ([63, 64] : List Nat) → u.2 j = a j) ∧ (0 ≤ z ∧ z ≤ 1)) (fun u t => va_P (dC, dI) vwCl (mG ad ca u.1 u.2) t.heap ∧ va_K (dC, dI) vwCl (mT ca) t ∧ va_D A (mG ad ca u.1 u.2)) A) ([.ref (ad 0), .int (iI p1)] : List Value).toArray s 0 0 A = Q
  suffices ST : ∀ (H : Heap) (locs : List Loc), va_P (dC, dI) vwCl (mG ad ca g a) H → va_S A s.heap H locs → W p l e ({ frames := 7, cells := 0, slots := 0, locals := 172 }) s m ([.ref (ad 0), .int (iI p1)] : List Value).toArray below meth c H locs 0 0 Q (F0 m 0 ls []) from ST _ _ hP hS
  clear hP hS
  intro H locs hP hS
  refine lv_aload_n hx hb dX13_isGone_0 rfl (lv_at hl 0 rfl) ?_
  refine gf_isStruck hx hb hj hown hK hP dX13_isGone_1 ?_
  refine lv_iload_n hx hb dX13_isGone_4 rfl (lv_at hl 1 rfl) ?_
  refine ld_isStruck hx hb hK hP hI (by omega) (by omega) dX13_isGone_5 (fun h_1 => ?_)
  refine xr_if_ne (tgt := 19) hx hb dX13_isGone_6 (by decide) (by omega) (fun h_2 => ?_) (fun h_2 => ?_)
  · refine lv_iconst (v := iI 1) hx hb dX13_isGone_19 rfl ?_
    refine lv_goto (tgt := 24) hx hb dX13_isGone_20 (by decide) ?_
    rw [← hQ]
    exact W.zret (v := iI 1) (ty := .boolean) hx hb hr (nb_bool (by omega) (by omega)) (fun t ht hW => ⟨⟨iI 1, (g, a), rfl, ⟨1, rfl, rfl, hI, haA, by omega⟩, by rw [ht]; exact hP, va_K.moved hW.alike hK, hD⟩, hS.F ht⟩) hS.2.2 dX13_isGone_24
  · refine lv_aload_n hx hb dX13_isGone_9 rfl (lv_at hl 0 rfl) ?_
    refine lv_iload_n hx hb dX13_isGone_10 rfl (lv_at hl 1 rfl) ?_
    refine jcg_i (va_runV (As := [.int (iI p1)]) (rest := []) ⟨hx, hb, hml, hown, hts⟩ (sX13_volumeOf l dC dI _ ad ca g a p1 hI (by omega) (by omega) hrSh) (cwV 1 hts (jgoodV m_257 m_494 m_495 m_503 m_215) rfl rfl rfl (by decide +kernel) ⟨(Nat.le_of_ble_eq_true rfl), (Nat.le_of_ble_eq_true rfl)⟩) ⟨jw_blind, va_recv hK hP (ci := 13) (q0 := 0) rfl rfl, fun U hU hW => ⟨rfl, jw_of hU hW hP hK hD⟩⟩ rfl rfl hl.1 rfl (lv_room (Nat.le_of_ble_eq_true rfl)) dX13_isGone_11 ⟨(Nat.le_of_ble_eq_true rfl), (Nat.le_of_ble_eq_true rfl)⟩) hD hS hA (fun r_3 u_9 H locs w_4 hP hK hD hS => ?_)
    obtain ⟨g_7, a_8⟩ := u_9
    obtain ⟨z_5, rfl, e_11, hI, hfr_10, h_6⟩ := w_4
    have hP : va_P (dC, dI) vwCl (mG ad ca g_7 a_8) H := hP
    have hD : va_D A (mG ad ca g_7 a_8) := hD
    have e_11 : g = g_7 := e_11.symm
    subst e_11
    have haA : ∀ j, j ∉ ([63, 64] : List Nat) → a_8 j = a j := fun j h => (hfr_10 j (fun q => h (by first | exact q | (simp only [List.mem_cons, List.not_mem_nil, or_false] at q ⊢ <;> omega)))).trans (haA j h)
    refine lv_bipush (v := iI 6) hx hb dX13_isGone_14 rfl ?_
    refine xr_icmp_ne (tgt := 23) hx hb dX13_isGone_16 (by decide) (by omega) (by omega) (fun h_12 => ?_) (fun h_12 => ?_)
    · refine lv_iconst (v := iI 0) hx hb dX13_isGone_23 rfl ?_
      rw [← hQ]
      exact W.zret (v := iI 0) (ty := .boolean) hx hb hr (nb_bool (by omega) (by omega)) (fun t ht hW => ⟨⟨iI 0, (g, a_8), rfl, ⟨0, rfl, rfl, hI, haA, by omega⟩, by rw [ht]; exact hP, va_K.moved hW.alike hK, hD⟩, hS.F ht⟩) hS.2.2 dX13_isGone_24
    · refine lv_iconst (v := iI 1) hx hb dX13_isGone_19 rfl ?_
      refine lv_goto (tgt := 24) hx hb dX13_isGone_20 (by decide) ?_
      rw [← hQ]
      exact W.zret (v := iI 1) (ty := .boolean) hx hb hr (nb_bool (by omega) (by omega)) (fun t ht hW => ⟨⟨iI 1, (g, a_8), rfl, ⟨1, rfl, rfl, hI, haA, by omega⟩, by rw [ht]; exact hP, va_K.moved hW.alike hK, hD⟩, hS.F ht⟩) hS.2.2 dX13_isGone_24
set_option maxHeartbeats 2000000 in
set_option maxRecDepth 100000 in
theorem sX13_owed (l : Launch) (dC : Nat → ClassId) (dI : Nat → Nat → Nat) (sz : Nat) (ad : Nat → Nat) (ca : Nat → ClassId) (g : Nat → Int) (a : Nat → Int → Int) (p1 : Int) (p2 : Int) (hI : mI g a) (q1 : rg p1) (q2 : rg p2) (hrSh : rSh g a) : Met l yX13_owed (jk yX13_owed cX13_owed 4 (some .int)) ({ frames := 4, cells := 0, slots := 0, locals := 93 }) (va_Pc [.ref (ad 0), .int (iI p1), .int (iI p2)] (jw_P (dC, dI) (mG ad ca g a) (mT ca) sz)) (va_Qi (fun (r : Int32) (u : (Nat → Int) × (Nat → Int → Int)) => ∃ z : Int, r = iI z ∧ (u.1 = g) ∧ (mI u.1 u.2) ∧ (∀ j, j ∉ ([62, 63] : List Nat) → u.2 j = a j) ∧ (rg z)) (fun u t => va_P (dC, dI) vwCl (mG ad ca u.1 u.2) t.heap ∧ va_K (dC, dI) vwCl (mT ca) t ∧ va_D (va_A (mG ad ca g a) sz) (mG ad ca u.1 u.2)) (va_A (mG ad ca g a) sz)) 0 0 (va_A (mG ad ca g a) sz) := by
  refine Met.ofW (cc := cX13_owed) (maxL := 4) (ret := (some .int)) (by decide) rfl ?_
  intro p e s m args below meth c s₁ B hml hv
  obtain ⟨rfl, hsz, hP, hK, hD0⟩ := hv
  have hx := B.exec
  have hb := B.bytes
  have hr := B.returns
  have hts := atoms_spec (ws := (jk yX13_owed cX13_owed 4 (some .int))) B.pre
  have hj : ∀ w ∈ jw, w.before ([.ref (ad 0), .int (iI p1), .int (iI p2)] : List Value).toArray s = true := fun w h => hts w (jm h)
  have hown : s.vm.findClass RX13 = some m.cls := findClass_of_methodNamed B.named
  subst hsz
  have hD := hD0.self (sz := s.heap.size)
  generalize hAe : (va_A (mG ad ca g a) s.heap.size) = A at hD ⊢
  have hA : ∀ q : Nat, s.heap.size ≤ q → A q := fun q h => by rw [← hAe]; exact Or.inr h
  have hS : va_S A s.heap s.heap [] := va_S.rf
  have hP : va_P (dC, dI) vwCl (mG ad ca g a) s.heap := hP
  have haA : ∀ j, j ∉ ([62, 63] : List Nat) → a j = a j := fun _ _ => rfl
  have hl := lv_entry ([.ref (ad 0), .int (iI p1), .int (iI p2)]) (n := 4) (Nat.le_of_ble_eq_true rfl)
  rw [lg_entry_eq]
  generalize (lg_sl ([.ref (ad 0), .int (iI p1), .int (iI p2)]) ++ List.replicate (4 - (lg_sl ([.ref (ad 0), .int (iI p1), .int (iI p2)])).length) Slot.unset).toArray = ls at hl ⊢
  have hl : lv_has ls 4 [(0, .ref (ad 0)), (1, .int (iI p1)), (2, .int (iI p2))] := hl
  generalize hQ : MQ below (va_Qi (fun (r : Int32) (u : (Nat → Int) × (Nat → Int → Int)) => ∃ z : Int, r = iI z ∧ (u.1 = g) ∧ (mI u.1 u.2) ∧ (∀ j, j ∉ ([62, 63] : List Nat) → u.2 j = a j) ∧ (rg z)) (fun u t => va_P (dC, dI) vwCl (mG ad ca u.1 u.2) t.heap ∧ va_K (dC, dI) vwCl (mT ca) t ∧ va_D A (mG ad ca u.1 u.2)) A) ([.ref (ad 0), .int (iI p1), .int (iI p2)] : List Value).toArray s 0 0 A = Q
  suffices ST : ∀ (H : Heap) (locs : List Loc), va_P (dC, dI) vwCl (mG ad ca g a) H → va_S A s.heap H locs → W p l e ({ frames := 4, cells := 0, slots := 0, locals := 93 }) s m ([.ref (ad 0), .int (iI p1), .int (iI p2)] : List Value).toArray below meth c H locs 0 0 Q (F0 m 0 ls []) from ST _ _ hP hS
  clear hP hS
  intro H locs hP hS
  refine lv_iload_n hx hb dX13_owed_0 rfl (lv_at hl 1 rfl) ?_
  refine lv_iconst (v := iI 0) hx hb dX13_owed_1 rfl ?_
  refine lv_bipush (v := iI 9) hx hb dX13_owed_2 rfl ?_
  refine jc_i (va_runS (As := [.int (iI p1), .int (iI 0), .int (iI 9)]) (rest := []) ⟨hx, hb, hml, hown, hts⟩ (sX13_in l dC dI _ p1 0 9 (by omega) (by omega) (by omega)) (va_cwS 3 hts (jgoodS m_220 m_364 m_503 m_147) rfl rfl rfl (by decide +kernel) ⟨(Nat.le_of_ble_eq_true rfl), (Nat.le_of_ble_eq_true rfl)⟩) ⟨jw_blind0, fun U hU hW => ⟨rfl, congrArg Array.size hU⟩⟩ rfl rfl hl.1 rfl (lv_room (Nat.le_of_ble_eq_true rfl)) dX13_owed_4 ⟨(Nat.le_of_ble_eq_true rfl), (Nat.le_of_ble_eq_true rfl)⟩) hP hS hA (fun r_1 H locs w_2 hP hS => ?_)
  obtain ⟨z_3, rfl, h_4, h_5⟩ := w_2
  refine xr_if_eq (tgt := 45) hx hb dX13_owed_7 (by decide) (by omega) (fun h_6 => ?_) (fun h_6 => ?_)
  · refine lv_iconst (v := iI (-1)) hx hb dX13_owed_45 rfl ?_
    rw [← hQ]
    exact W.iret (v := iI (-1)) hx hb hr (fun t ht hW => ⟨⟨iI (-1), (g, a), rfl, ⟨(-1), rfl, rfl, hI, haA, by omega⟩, by rw [ht]; exact hP, va_K.moved hW.alike hK, hD⟩, hS.F ht⟩) hS.2.2 dX13_owed_46
  · refine lv_aload_n hx hb dX13_owed_10 rfl (lv_at hl 0 rfl) ?_
    refine gf_subscribedFor hx hb hj hown hK hP dX13_owed_11 ?_
    refine lv_iload_n hx hb dX13_owed_14 rfl (lv_at hl 1 rfl) ?_
    refine ld_subscribedFor hx hb hK hP hI (by omega) (by omega) dX13_owed_15 (fun h_7 => ?_)
    refine xr_if_eq (tgt := 45) hx hb dX13_owed_16 (by decide) (by omega) (fun h_8 => ?_) (fun h_8 => ?_)
    · refine lv_iconst (v := iI (-1)) hx hb dX13_owed_45 rfl ?_
      rw [← hQ]
      exact W.iret (v := iI (-1)) hx hb hr (fun t ht hW => ⟨⟨iI (-1), (g, a), rfl, ⟨(-1), rfl, rfl, hI, haA, by omega⟩, by rw [ht]; exact hP, va_K.moved hW.alike hK, hD⟩, hS.F ht⟩) hS.2.2 dX13_owed_46
    · refine lv_iload_n hx hb dX13_owed_19 rfl (lv_at hl 2 rfl) ?_
      refine jc_i (va_runS (As := [.int (iI p2)]) (rest := []) ⟨hx, hb, hml, hown, hts⟩ (sX13_isVolume l dC dI _ p2 (by omega)) (va_cwS 1 hts (jgoodS m_243 m_395 m_503 m_164) rfl rfl rfl (by decide +kernel) ⟨(Nat.le_of_ble_eq_true rfl), (Nat.le_of_ble_eq_true rfl)⟩) ⟨jw_blind0, fun U hU hW => ⟨rfl, congrArg Array.size hU⟩⟩ rfl rfl hl.1 rfl (lv_room (Nat.le_of_ble_eq_true rfl)) dX13_owed_20 ⟨(Nat.le_of_ble_eq_true rfl), (Nat.le_of_ble_eq_true rfl)⟩) hP hS hA (fun r_9 H locs w_10 hP hS => ?_)
      obtain ⟨z_11, rfl, h_12, h_13⟩ := w_10
      refine xr_if_eq (tgt := 45) hx hb dX13_owed_23 (by decide) (by omega) (fun h_14 => ?_) (fun h_14 => ?_)
      · refine lv_iconst (v := iI (-1)) hx hb dX13_owed_45 rfl ?_
        rw [← hQ]
        exact W.iret (v := iI (-1)) hx hb hr (fun t ht hW => ⟨⟨iI (-1), (g, a), rfl, ⟨(-1), rfl, rfl, hI, haA, by omega⟩, by rw [ht]; exact hP, va_K.moved hW.alike hK, hD⟩, hS.F ht⟩) hS.2.2 dX13_owed_46
      · refine lv_aload_n hx hb dX13_owed_26 rfl (lv_at hl 0 rfl) ?_
        refine gf_isSet hx hb hj hown hK hP dX13_owed_27 ?_
        refine lv_iload_n hx hb dX13_owed_30 rfl (lv_at hl 2 rfl) ?_
        refine ld_isSet hx hb hK hP hI (by omega) (by omega) dX13_owed_31 (fun h_15 => ?_)
        refine xr_if_eq (tgt := 45) hx hb dX13_owed_32 (by decide) (by omega) (fun h_16 => ?_) (fun h_16 => ?_)
        · refine lv_iconst (v := iI (-1)) hx hb dX13_owed_45 rfl ?_
          rw [← hQ]
          exact W.iret (v := iI (-1)) hx hb hr (fun t ht hW => ⟨⟨iI (-1), (g, a), rfl, ⟨(-1), rfl, rfl, hI, haA, by omega⟩, by rw [ht]; exact hP, va_K.moved hW.alike hK, hD⟩, hS.F ht⟩) hS.2.2 dX13_owed_46
        · refine lv_iload_n hx hb dX13_owed_35 rfl (lv_at hl 2 rfl) ?_
          refine lv_aload_n hx hb dX13_owed_36 rfl (lv_at hl 0 rfl) ?_
          refine gf_subscribedFrom hx hb hj hown hK hP dX13_owed_37 ?_
          refine lv_iload_n hx hb dX13_owed_40 rfl (lv_at hl 1 rfl) ?_
          refine ld_subscribedFrom hx hb hK hP hI (by omega) (by omega) dX13_owed_41 (fun h_17 => ?_)
          refine xr_icmp_ge (tgt := 47) hx hb dX13_owed_42 (by decide) (by omega) (by omega) (fun h_18 => ?_) (fun h_18 => ?_)
          · refine lv_iconst (v := iI 0) hx hb dX13_owed_47 rfl ?_
            refine lv_istore_n (lv' := [(3, .int (iI 0)), (0, .ref (ad 0)), (1, .int (iI p1)), (2, .int (iI p2))]) hx hb dX13_owed_48 rfl hl (by decide) rfl (fun ls hl => ?_)
            have L49 : ∀ (n49 : Nat) (v3_49 : Int) (a_49 : Nat → Int → Int) (H : Heap) (locs : List Loc) (ls : Array Slot), (0 ≤ v3_49 ∧ v3_49 ≤ 2147483647) → (mI g a_49) → (∀ j, j ∉ ([62, 63] : List Nat) → a_49 j = a j) → (0 < (n49 : Int) ∧ 9 - v3_49 < (n49 : Int)) → va_P (dC, dI) vwCl (mG ad ca g a_49) H → va_D A (mG ad ca g a_49) → va_S A s.heap H locs → lv_has ls 4 [(3, .int (iI v3_49)), (0, .ref (ad 0)), (1, .int (iI p1)), (2, .int (iI p2))] → W p l e ({ frames := 4, cells := 0, slots := 0, locals := 93 }) s m ([.ref (ad 0), .int (iI p1), .int (iI p2)] : List Value).toArray below meth c H locs 0 0 Q (F0 m 49 ls []) := by
              intro n49
              induction n49 with
              | zero =>
                intro v3_49 a_49 H locs ls h_19 hI haA hm49 hP hD hS hl
                exfalso; omega
              | succ n49 ih49 =>
                intro v3_49 a_49 H locs ls h_20 hI haA hm49 hP hD hS hl
                refine lv_iload_n hx hb dX13_owed_49 rfl (lv_at hl 0 rfl) ?_
                refine lv_bipush (v := iI 9) hx hb dX13_owed_50 rfl ?_
                refine xr_icmp_ge (tgt := 68) hx hb dX13_owed_52 (by decide) (by omega) (by omega) (fun h_21 => ?_) (fun h_21 => ?_)
                · refine lv_iconst (v := iI 0) hx hb dX13_owed_68 rfl ?_
                  refine lv_istore_n (lv' := [(3, .int (iI 0)), (0, .ref (ad 0)), (1, .int (iI p1)), (2, .int (iI p2))]) hx hb dX13_owed_69 rfl hl (by decide) rfl (fun ls hl => ?_)
                  have L70 : ∀ (n70 : Nat) (v3_70 : Int) (a_70 : Nat → Int → Int) (H : Heap) (locs : List Loc) (ls : Array Slot), (0 ≤ v3_70 ∧ v3_70 ≤ 2147483647) → (mI g a_70) → (∀ j, j ∉ ([62, 63] : List Nat) → a_70 j = a j) → (0 < (n70 : Int) ∧ (g 37) - v3_70 < (n70 : Int)) → va_P (dC, dI) vwCl (mG ad ca g a_70) H → va_D A (mG ad ca g a_70) → va_S A s.heap H locs → lv_has ls 4 [(3, .int (iI v3_70)), (0, .ref (ad 0)), (1, .int (iI p1)), (2, .int (iI p2))] → W p l e ({ frames := 4, cells := 0, slots := 0, locals := 93 }) s m ([.ref (ad 0), .int (iI p1), .int (iI p2)] : List Value).toArray below meth c H locs 0 0 Q (F0 m 70 ls []) := by
                    intro n70
                    induction n70 with
                    | zero =>
                      intro v3_70 a_70 H locs ls h_22 hI haA hm70 hP hD hS hl
                      exfalso; omega
                    | succ n70 ih70 =>
                      intro v3_70 a_70 H locs ls h_23 hI haA hm70 hP hD hS hl
                      refine lv_iload_n hx hb dX13_owed_70 rfl (lv_at hl 0 rfl) ?_
                      refine lv_aload_n hx hb dX13_owed_71 rfl (lv_at hl 1 rfl) ?_
                      refine gf_entries hx hb hj hown hK hP hI dX13_owed_72 (fun h_24 => ?_)
                      refine xr_icmp_ge (tgt := 118) hx hb dX13_owed_75 (by decide) (by omega) (by omega) (fun h_25 => ?_) (fun h_25 => ?_)
                      · refine lv_aload_n hx hb dX13_owed_118 rfl (lv_at hl 1 rfl) ?_
                        refine gf_names hx hb hj hown hK hP dX13_owed_119 ?_
                        refine lv_iconst (v := iI 1) hx hb dX13_owed_122 rfl ?_
                        refine lv_aload_n hx hb dX13_owed_123 rfl (lv_at hl 1 rfl) ?_
                        refine gf_setLines hx hb hj hown hK hP dX13_owed_124 ?_
                        refine lv_iload_n hx hb dX13_owed_127 rfl (lv_at hl 3 rfl) ?_
                        refine ld_setLines hx hb hK hP hI (by omega) (by omega) dX13_owed_128 (fun h_26 => ?_)
                        refine sa_names hx hb hK hP hD hS hI (by omega) (by omega) dX13_owed_129 (fun a_27 z_30 H locs h_31 h_32 e_28 e_29 hI hP hD hS => ?_)
                        have haA : ∀ j, j ∉ ([62, 63] : List Nat) → a_27 j = a j := fun j h => (e_28 j (fun q => h (q ▸ (by decide : 62 ∈ ([62, 63] : List Nat))))).trans (haA j h)
                        refine lv_aload_n hx hb dX13_owed_130 rfl (lv_at hl 1 rfl) ?_
                        refine gf_names hx hb hj hown hK hP dX13_owed_131 ?_
                        refine lv_bipush (v := iI 7) hx hb dX13_owed_134 rfl ?_
                        refine lv_iload_n hx hb dX13_owed_136 rfl (lv_at hl 3 rfl) ?_
                        refine sa_names hx hb hK hP hD hS hI (by omega) (by omega) dX13_owed_137 (fun a_33 z_36 H locs h_37 h_38 e_34 e_35 hI hP hD hS => ?_)
                        have haA : ∀ j, j ∉ ([62, 63] : List Nat) → a_33 j = a j := fun j h => (e_34 j (fun q => h (q ▸ (by decide : 62 ∈ ([62, 63] : List Nat))))).trans (haA j h)
                        refine lv_aload_n hx hb dX13_owed_138 rfl (lv_at hl 1 rfl) ?_
                        refine lv_iconst (v := iI 4) hx hb dX13_owed_139 rfl ?_
                        refine lv_iload_n hx hb dX13_owed_140 rfl (lv_at hl 3 rfl) ?_
                        refine lv_aload_n hx hb dX13_owed_141 rfl (lv_at hl 1 rfl) ?_
                        refine gf_setIn hx hb hj hown hK hP dX13_owed_142 ?_
                        refine lv_iload_n hx hb dX13_owed_145 rfl (lv_at hl 3 rfl) ?_
                        refine ld_setIn hx hb hK hP hI (by omega) (by omega) dX13_owed_146 (fun h_39 => ?_)
                        refine jcg_i (va_runV (As := [.int (iI 4), .int (iI p2), .int (iI (a_33 21 p2))]) (rest := []) ⟨hx, hb, hml, hown, hts⟩ (sX13_tells l dC dI _ ad ca g a_33 4 p2 (a_33 21 p2) hI (by omega) (by omega) (by omega) (by omega) (rSh_t rfl rfl (haA 9 (by decide)) (haA 10 (by decide)) (haA 11 (by decide)) (haA 12 (by decide)) (haA 16 (by decide)) hrSh)) (cwV 3 hts (jgoodV m_249 m_484 m_485 m_503 m_210) rfl rfl rfl (by decide +kernel) ⟨(Nat.le_of_ble_eq_true rfl), (Nat.le_of_ble_eq_true rfl)⟩) ⟨jw_blind, va_recv hK hP (ci := 13) (q0 := 0) rfl rfl, fun U hU hW => ⟨rfl, jw_of hU hW hP hK hD⟩⟩ rfl rfl hl.1 rfl (lv_room (Nat.le_of_ble_eq_true rfl)) dX13_owed_147 ⟨(Nat.le_of_ble_eq_true rfl), (Nat.le_of_ble_eq_true rfl)⟩) hD hS hA (fun r_40 u_46 H locs w_41 hP hK hD hS => ?_)
                        obtain ⟨g_44, a_45⟩ := u_46
                        obtain ⟨z_42, rfl, e_48, hI, hfr_47, h_43⟩ := w_41
                        have hP : va_P (dC, dI) vwCl (mG ad ca g_44 a_45) H := hP
                        have hD : va_D A (mG ad ca g_44 a_45) := hD
                        have e_48 : g = g_44 := e_48.symm
                        subst e_48
                        have haA : ∀ j, j ∉ ([62, 63] : List Nat) → a_45 j = a j := fun j h => (hfr_47 j (fun q => h (by first | exact q | (simp only [List.mem_cons, List.not_mem_nil, or_false] at q ⊢ <;> omega)))).trans (haA j h)
                        refine lv_istore_n (lv' := [(3, .int (iI z_42)), (0, .ref (ad 0)), (1, .int (iI p1)), (2, .int (iI p2))]) hx hb dX13_owed_150 rfl hl (by decide) rfl (fun ls hl => ?_)
                        refine lv_iload_n hx hb dX13_owed_151 rfl (lv_at hl 0 rfl) ?_
                        refine xr_if_ge (tgt := 159) hx hb dX13_owed_152 (by decide) (by omega) (fun h_49 => ?_) (fun h_49 => ?_)
                        · refine lv_iload_n hx hb dX13_owed_159 rfl (lv_at hl 0 rfl) ?_
                          refine lv_aload_n hx hb dX13_owed_160 rfl (lv_at hl 1 rfl) ?_
                          refine gf_subscribedFor hx hb hj hown hK hP dX13_owed_161 ?_
                          refine lv_iload_n hx hb dX13_owed_164 rfl (lv_at hl 2 rfl) ?_
                          refine ld_subscribedFor hx hb hK hP hI (by omega) (by omega) dX13_owed_165 (fun h_50 => ?_)
                          refine xr_icmp_le (tgt := 178) hx hb dX13_owed_166 (by decide) (by omega) (by omega) (fun h_51 => ?_) (fun h_51 => ?_)
                          · refine lv_iload_n hx hb dX13_owed_178 rfl (lv_at hl 0 rfl) ?_
                            rw [← hQ]
                            exact W.iret (v := iI z_42) hx hb hr (fun t ht hW => ⟨⟨iI z_42, (g, a_45), rfl, ⟨z_42, rfl, rfl, hI, haA, by omega⟩, by rw [ht]; exact hP, va_K.moved hW.alike hK, hD⟩, hS.F ht⟩) hS.2.2 dX13_owed_179
                          · refine lv_aload_n hx hb dX13_owed_169 rfl (lv_at hl 1 rfl) ?_
                            refine gf_subscribedFor hx hb hj hown hK hP dX13_owed_170 ?_
                            refine lv_iload_n hx hb dX13_owed_173 rfl (lv_at hl 2 rfl) ?_
                            refine ld_subscribedFor hx hb hK hP hI (by omega) (by omega) dX13_owed_174 (fun h_52 => ?_)
                            refine lv_goto (tgt := 179) hx hb dX13_owed_175 (by decide) ?_
                            rw [← hQ]
                            exact W.iret (v := iI (a_45 60 p1)) hx hb hr (fun t ht hW => ⟨⟨iI (a_45 60 p1), (g, a_45), rfl, ⟨a_45 60 p1, rfl, rfl, hI, haA, by omega⟩, by rw [ht]; exact hP, va_K.moved hW.alike hK, hD⟩, hS.F ht⟩) hS.2.2 dX13_owed_179
                        · refine lv_iconst (v := iI 0) hx hb dX13_owed_155 rfl ?_
                          refine lv_goto (tgt := 179) hx hb dX13_owed_156 (by decide) ?_
                          rw [← hQ]
                          exact W.iret (v := iI 0) hx hb hr (fun t ht hW => ⟨⟨iI 0, (g, a_45), rfl, ⟨0, rfl, rfl, hI, haA, by omega⟩, by rw [ht]; exact hP, va_K.moved hW.alike hK, hD⟩, hS.F ht⟩) hS.2.2 dX13_owed_179
                      · refine lv_aload_n hx hb dX13_owed_78 rfl (lv_at hl 1 rfl) ?_
                        refine gf_names hx hb hj hown hK hP dX13_owed_79 ?_
                        refine lv_bipush (v := iI 8) hx hb dX13_owed_82 rfl ?_
                        refine lv_dup2_11 hx hb dX13_owed_84 rfl rfl ?_
                        refine ld_names hx hb hK hP hI (by omega) (by omega) dX13_owed_85 (fun h_53 => ?_)
                        refine lv_aload_n hx hb dX13_owed_86 rfl (lv_at hl 1 rfl) ?_
                        refine gf_setWith hx hb hj hown hK hP dX13_owed_87 ?_
                        refine lv_iload_n hx hb dX13_owed_90 rfl (lv_at hl 0 rfl) ?_
                        refine ld_setWith hx hb hK hP hI (by omega) (by omega) dX13_owed_91 (fun h_54 => ?_)
                        refine lv_iload_n hx hb dX13_owed_92 rfl (lv_at hl 3 rfl) ?_
                        have J110 : ∀ (s0_110 : Int) (H : Heap) (locs : List Loc) (ls : Array Slot), (0 ≤ s0_110 ∧ s0_110 ≤ 1) → va_P (dC, dI) vwCl (mG ad ca g a_70) H → va_D A (mG ad ca g a_70) → va_S A s.heap H locs → lv_has ls 4 [(3, .int (iI v3_70)), (0, .ref (ad 0)), (1, .int (iI p1)), (2, .int (iI p2))] → W p l e ({ frames := 4, cells := 0, slots := 0, locals := 93 }) s m ([.ref (ad 0), .int (iI p1), .int (iI p2)] : List Value).toArray below meth c H locs 0 0 Q (F0 m 110 ls [.int (iI s0_110), .int (iI (a_70 62 8)), .int (iI 8), .ref (ad 62)]) := by
                          intro s0_110 H locs ls h_55 hP hD hS hl
                          refine xr_add hx hb dX13_owed_110 ?_
                          refine xr_kept (fun z_56 h_57 h_58 => ?_)
                          refine sa_names hx hb hK hP hD hS hI (by omega) (by omega) dX13_owed_111 (fun a_59 z_62 H locs h_63 h_64 e_60 e_61 hI hP hD hS => ?_)
                          have haA : ∀ j, j ∉ ([62, 63] : List Nat) → a_59 j = a j := fun j h => (e_60 j (fun q => h (q ▸ (by decide : 62 ∈ ([62, 63] : List Nat))))).trans (haA j h)
                          refine lv_iinc (v := iI (v3_70 + 1)) (lv' := [(3, .int (iI (v3_70 + 1))), (0, .ref (ad 0)), (1, .int (iI p1)), (2, .int (iI p2))]) hx hb dX13_owed_112 hl (k := 0) rfl (iI_add _ _) (by decide) rfl (fun ls hl => ?_)
                          refine lv_goto (tgt := 70) hx hb dX13_owed_115 (by decide) ?_
                          exact ih70 (v3_70 + 1) a_59 H locs ls (by omega) hI haA (by omega) hP hD hS hl
                        have J109 : ∀ (H : Heap) (locs : List Loc) (ls : Array Slot), va_P (dC, dI) vwCl (mG ad ca g a_70) H → va_D A (mG ad ca g a_70) → va_S A s.heap H locs → lv_has ls 4 [(3, .int (iI v3_70)), (0, .ref (ad 0)), (1, .int (iI p1)), (2, .int (iI p2))] → W p l e ({ frames := 4, cells := 0, slots := 0, locals := 93 }) s m ([.ref (ad 0), .int (iI p1), .int (iI p2)] : List Value).toArray below meth c H locs 0 0 Q (F0 m 109 ls [.int (iI (a_70 62 8)), .int (iI 8), .ref (ad 62)]) := by
                          intro H locs ls hP hD hS hl
                          refine lv_iconst (v := iI 0) hx hb dX13_owed_109 rfl ?_
                          exact J110 0 H locs ls (by omega) hP hD hS hl
                        refine xr_icmp_ne (tgt := 109) hx hb dX13_owed_93 (by decide) (by omega) (by omega) (fun h_65 => ?_) (fun h_65 => ?_)
                        · exact J109 H locs ls hP hD hS hl
                        · refine lv_aload_n hx hb dX13_owed_96 rfl (lv_at hl 1 rfl) ?_
                          refine gf_isStruck hx hb hj hown hK hP dX13_owed_97 ?_
                          refine lv_iload_n hx hb dX13_owed_100 rfl (lv_at hl 0 rfl) ?_
                          refine ld_isStruck hx hb hK hP hI (by omega) (by omega) dX13_owed_101 (fun h_66 => ?_)
                          refine xr_if_eq (tgt := 109) hx hb dX13_owed_102 (by decide) (by omega) (fun h_67 => ?_) (fun h_67 => ?_)
                          · exact J109 H locs ls hP hD hS hl
                          · refine lv_iconst (v := iI 1) hx hb dX13_owed_105 rfl ?_
                            refine lv_goto (tgt := 110) hx hb dX13_owed_106 (by decide) ?_
                            exact J110 1 H locs ls (by omega) hP hD hS hl
                  exact L70 ((((g 37) - 0 : Int)).toNat + 1) 0 a_49 H locs ls (by omega) hI haA (by omega) hP hD hS hl
                · refine lv_aload_n hx hb dX13_owed_55 rfl (lv_at hl 1 rfl) ?_
                  refine gf_names hx hb hj hown hK hP dX13_owed_56 ?_
                  refine lv_iload_n hx hb dX13_owed_59 rfl (lv_at hl 0 rfl) ?_
                  refine lv_iconst (v := iI 0) hx hb dX13_owed_60 rfl ?_
                  refine sa_names hx hb hK hP hD hS hI (by omega) (by omega) dX13_owed_61 (fun a_68 z_71 H locs h_72 h_73 e_69 e_70 hI hP hD hS => ?_)
                  have haA : ∀ j, j ∉ ([62, 63] : List Nat) → a_68 j = a j := fun j h => (e_69 j (fun q => h (q ▸ (by decide : 62 ∈ ([62, 63] : List Nat))))).trans (haA j h)
                  refine lv_iinc (v := iI (v3_49 + 1)) (lv' := [(3, .int (iI (v3_49 + 1))), (0, .ref (ad 0)), (1, .int (iI p1)), (2, .int (iI p2))]) hx hb dX13_owed_62 hl (k := 0) rfl (iI_add _ _) (by decide) rfl (fun ls hl => ?_)
                  refine lv_goto (tgt := 49) hx hb dX13_owed_65 (by decide) ?_
                  exact ih49 (v3_49 + 1) a_68 H locs ls (by omega) hI haA (by omega) hP hD hS hl
            exact L49 (((9 - 0 : Int)).toNat + 1) 0 a H locs ls (by omega) hI haA (by omega) hP hD hS hl
          · refine lv_iconst (v := iI (-1)) hx hb dX13_owed_45 rfl ?_
            rw [← hQ]
            exact W.iret (v := iI (-1)) hx hb hr (fun t ht hW => ⟨⟨iI (-1), (g, a), rfl, ⟨(-1), rfl, rfl, hI, haA, by omega⟩, by rw [ht]; exact hP, va_K.moved hW.alike hK, hD⟩, hS.F ht⟩) hS.2.2 dX13_owed_46
set_option maxHeartbeats 2000000 in
set_option maxRecDepth 100000 in
theorem sX13_is (l : Launch) (dC : Nat → ClassId) (dI : Nat → Nat → Nat) (sz : Nat) (ad : Nat → Nat) (ca : Nat → ClassId) (g : Nat → Int) (a : Nat → Int → Int) (p1 : Int) (p2 : Int) (hI : mI g a) (q1 : rg p1) (q2 : rg p2) (hrSh : rSh g a) : Met l yX13_is (jk yX13_is cX13_is 5 (some .int)) ({ frames := 7, cells := 0, slots := 0, locals := 172 }) (va_Pc [.ref (ad 0), .int (iI p1), .int (iI p2)] (jw_P (dC, dI) (mG ad ca g a) (mT ca) sz)) (va_Qi (fun (r : Int32) (u : (Nat → Int) × (Nat → Int → Int)) => ∃ z : Int, r = iI z ∧ (u.1 = g) ∧ (mI u.1 u.2) ∧ (∀ j, j ∉ ([63, 64] : List Nat) → u.2 j = a j) ∧ (rg z)) (fun u t => va_P (dC, dI) vwCl (mG ad ca u.1 u.2) t.heap ∧ va_K (dC, dI) vwCl (mT ca) t ∧ va_D (va_A (mG ad ca g a) sz) (mG ad ca u.1 u.2)) (va_A (mG ad ca g a) sz)) 0 0 (va_A (mG ad ca g a) sz) := by
  refine Met.ofW (cc := cX13_is) (maxL := 5) (ret := (some .int)) (by decide) rfl ?_
  intro p e s m args below meth c s₁ B hml hv
  obtain ⟨rfl, hsz, hP, hK, hD0⟩ := hv
  have hx := B.exec
  have hb := B.bytes
  have hr := B.returns
  have hts := atoms_spec (ws := (jk yX13_is cX13_is 5 (some .int))) B.pre
  have hj : ∀ w ∈ jw, w.before ([.ref (ad 0), .int (iI p1), .int (iI p2)] : List Value).toArray s = true := fun w h => hts w (jm h)
  have hown : s.vm.findClass RX13 = some m.cls := findClass_of_methodNamed B.named
  subst hsz
  have hD := hD0.self (sz := s.heap.size)
  generalize hAe : (va_A (mG ad ca g a) s.heap.size) = A at hD ⊢
  have hA : ∀ q : Nat, s.heap.size ≤ q → A q := fun q h => by rw [← hAe]; exact Or.inr h
  have hS : va_S A s.heap s.heap [] := va_S.rf
  have hP : va_P (dC, dI) vwCl (mG ad ca g a) s.heap := hP
  have haA : ∀ j, j ∉ ([63, 64] : List Nat) → a j = a j := fun _ _ => rfl
  have hl := lv_entry ([.ref (ad 0), .int (iI p1), .int (iI p2)]) (n := 5) (Nat.le_of_ble_eq_true rfl)
  rw [lg_entry_eq]
  generalize (lg_sl ([.ref (ad 0), .int (iI p1), .int (iI p2)]) ++ List.replicate (5 - (lg_sl ([.ref (ad 0), .int (iI p1), .int (iI p2)])).length) Slot.unset).toArray = ls at hl ⊢
  have hl : lv_has ls 5 [(0, .ref (ad 0)), (1, .int (iI p1)), (2, .int (iI p2))] := hl
  generalize hQ : MQ below (va_Qi (fun (r : Int32) (u : (Nat → Int) × (Nat → Int → Int)) => ∃ z : Int, r = iI z ∧ (u.1 = g) ∧ (mI u.1 u.2) ∧ (∀ j, j ∉ ([63, 64] : List Nat) → u.2 j = a j) ∧ (rg z)) (fun u t => va_P (dC, dI) vwCl (mG ad ca u.1 u.2) t.heap ∧ va_K (dC, dI) vwCl (mT ca) t ∧ va_D A (mG ad ca u.1 u.2)) A) ([.ref (ad 0), .int (iI p1), .int (iI p2)] : List Value).toArray s 0 0 A = Q
  suffices ST : ∀ (H : Heap) (locs : List Loc), va_P (dC, dI) vwCl (mG ad ca g a) H → va_S A s.heap H locs → W p l e ({ frames := 7, cells := 0, slots := 0, locals := 172 }) s m ([.ref (ad 0), .int (iI p1), .int (iI p2)] : List Value).toArray below meth c H locs 0 0 Q (F0 m 0 ls []) from ST _ _ hP hS
  clear hP hS
  intro H locs hP hS
  refine lv_aload_n hx hb dX13_is_0 rfl (lv_at hl 0 rfl) ?_
  refine lv_iload_n hx hb dX13_is_1 rfl (lv_at hl 1 rfl) ?_
  refine jc_i (va_runV (As := [.int (iI p1)]) (rest := []) ⟨hx, hb, hml, hown, hts⟩ (sX13_isEntry l dC dI _ ad ca g a p1 hI (by omega)) (cwV 1 hts (jgoodV m_253 m_378 m_379 m_503 m_155) rfl rfl rfl (by decide +kernel) ⟨(Nat.le_of_ble_eq_true rfl), (Nat.le_of_ble_eq_true rfl)⟩) ⟨jw_blind, va_recv hK hP (ci := 13) (q0 := 0) rfl rfl, fun U hU hW => ⟨rfl, jw_of hU hW hP hK hD⟩⟩ rfl rfl hl.1 rfl (lv_room (Nat.le_of_ble_eq_true rfl)) dX13_is_2 ⟨(Nat.le_of_ble_eq_true rfl), (Nat.le_of_ble_eq_true rfl)⟩) hP hS hA (fun r_1 H locs w_2 hP hS => ?_)
  obtain ⟨z_3, rfl, h_4, h_5⟩ := w_2
  have b_6 : 0 ≤ g 37 ∧ g 37 ≤ 60 := hI.1 37
  refine xr_if_ne (tgt := 10) hx hb dX13_is_5 (by decide) (by omega) (fun h_7 => ?_) (fun h_7 => ?_)
  · refine lv_iload_n hx hb dX13_is_10 rfl (lv_at hl 1 rfl) ?_
    refine lv_istore_n (lv' := [(3, .int (iI p1)), (0, .ref (ad 0)), (1, .int (iI p1)), (2, .int (iI p2))]) hx hb dX13_is_11 rfl hl (by decide) rfl (fun ls hl => ?_)
    refine lv_aload_n hx hb dX13_is_12 rfl (lv_at hl 1 rfl) ?_
    refine gf_kind hx hb hj hown hK hP dX13_is_13 ?_
    refine lv_iload_n hx hb dX13_is_16 rfl (lv_at hl 0 rfl) ?_
    refine ld_kind hx hb hK hP hI (by omega) (by omega) dX13_is_17 (fun h_8 => ?_)
    have J26 : ∀ (s0_26 : Int) (H : Heap) (locs : List Loc) (ls : Array Slot), (0 ≤ s0_26 ∧ s0_26 ≤ 1) → va_P (dC, dI) vwCl (mG ad ca g a) H → va_D A (mG ad ca g a) → va_S A s.heap H locs → lv_has ls 5 [(3, .int (iI p1)), (0, .ref (ad 0)), (1, .int (iI p1)), (2, .int (iI p2))] → W p l e ({ frames := 7, cells := 0, slots := 0, locals := 172 }) s m ([.ref (ad 0), .int (iI p1), .int (iI p2)] : List Value).toArray below meth c H locs 0 0 Q (F0 m 26 ls [.int (iI s0_26)]) := by
      intro s0_26 H locs ls h_9 hP hD hS hl
      refine lv_istore (lv' := [(4, .int (iI s0_26)), (3, .int (iI p1)), (0, .ref (ad 0)), (1, .int (iI p1)), (2, .int (iI p2))]) hx hb dX13_is_26 hl (by decide) rfl (fun ls hl => ?_)
      refine lv_iload_n hx hb dX13_is_28 rfl (lv_at hl 4 rfl) ?_
      rcases (show (p2 < 0 ∨ 9 < p2) ∨ p2 = 0 ∨ p2 = 1 ∨ p2 = 2 ∨ p2 = 3 ∨ p2 = 4 ∨ p2 = 5 ∨ p2 = 6 ∨ p2 = 7 ∨ p2 = 8 ∨ p2 = 9 by omega) with h_10 | h_10 | h_10 | h_10 | h_10 | h_10 | h_10 | h_10 | h_10 | h_10 | h_10
      · refine lv_tableOut (tgt := 252) hx hb dX13_is_29 (by rw [iI_toInt (by omega)]; omega) (by decide) ?_
        refine lv_iconst (v := iI (-1)) hx hb dX13_is_252 rfl ?_
        rw [← hQ]
        exact W.iret (v := iI (-1)) hx hb hr (fun t ht hW => ⟨⟨iI (-1), (g, a), rfl, ⟨(-1), rfl, rfl, hI, haA, by omega⟩, by rw [ht]; exact hP, va_K.moved hW.alike hK, hD⟩, hS.F ht⟩) hS.2.2 dX13_is_253
      · refine jtab_in (v := iI 0) (off := 55) (tgt := 84) hx hb dX13_is_29 (by rw [h_10]) (by decide) (by decide) (by decide) (by decide) ?_
        refine lv_aload_n hx hb dX13_is_84 rfl (lv_at hl 2 rfl) ?_
        refine gf_kind hx hb hj hown hK hP dX13_is_85 ?_
        refine lv_iload_n hx hb dX13_is_88 rfl (lv_at hl 1 rfl) ?_
        refine ld_kind hx hb hK hP hI (by omega) (by omega) dX13_is_89 (fun h_11 => ?_)
        rw [← hQ]
        exact W.iret (v := iI (a 27 p1)) hx hb hr (fun t ht hW => ⟨⟨iI (a 27 p1), (g, a), rfl, ⟨a 27 p1, rfl, rfl, hI, haA, by omega⟩, by rw [ht]; exact hP, va_K.moved hW.alike hK, hD⟩, hS.F ht⟩) hS.2.2 dX13_is_90
      · refine jtab_in (v := iI 1) (off := 62) (tgt := 91) hx hb dX13_is_29 (by rw [h_10]) (by decide) (by decide) (by decide) (by decide) ?_
        refine lv_iload hx hb dX13_is_91 (lv_at hl 0 rfl) ?_
        refine xr_if_eq (tgt := 105) hx hb dX13_is_93 (by decide) (by omega) (fun h_12 => ?_) (fun h_12 => ?_)
        · refine lv_iconst (v := iI (-1)) hx hb dX13_is_105 rfl ?_
          rw [← hQ]
          exact W.iret (v := iI (-1)) hx hb hr (fun t ht hW => ⟨⟨iI (-1), (g, a), rfl, ⟨(-1), rfl, rfl, hI, haA, by omega⟩, by rw [ht]; exact hP, va_K.moved hW.alike hK, hD⟩, hS.F ht⟩) hS.2.2 dX13_is_106
        · refine lv_aload_n hx hb dX13_is_96 rfl (lv_at hl 2 rfl) ?_
          refine gf_sort hx hb hj hown hK hP dX13_is_97 ?_
          refine lv_iload_n hx hb dX13_is_100 rfl (lv_at hl 1 rfl) ?_
          refine ld_sort hx hb hK hP hI (by omega) (by omega) dX13_is_101 (fun h_13 => ?_)
          refine lv_goto (tgt := 106) hx hb dX13_is_102 (by decide) ?_
          rw [← hQ]
          exact W.iret (v := iI (a 28 p1)) hx hb hr (fun t ht hW => ⟨⟨iI (a 28 p1), (g, a), rfl, ⟨a 28 p1, rfl, rfl, hI, haA, by omega⟩, by rw [ht]; exact hP, va_K.moved hW.alike hK, hD⟩, hS.F ht⟩) hS.2.2 dX13_is_106
      · refine jtab_in (v := iI 2) (off := 78) (tgt := 107) hx hb dX13_is_29 (by rw [h_10]) (by decide) (by decide) (by decide) (by decide) ?_
        refine lv_iload hx hb dX13_is_107 (lv_at hl 0 rfl) ?_
        refine xr_if_eq (tgt := 121) hx hb dX13_is_109 (by decide) (by omega) (fun h_14 => ?_) (fun h_14 => ?_)
        · refine lv_iconst (v := iI (-1)) hx hb dX13_is_121 rfl ?_
          rw [← hQ]
          exact W.iret (v := iI (-1)) hx hb hr (fun t ht hW => ⟨⟨iI (-1), (g, a), rfl, ⟨(-1), rfl, rfl, hI, haA, by omega⟩, by rw [ht]; exact hP, va_K.moved hW.alike hK, hD⟩, hS.F ht⟩) hS.2.2 dX13_is_122
        · refine lv_aload_n hx hb dX13_is_112 rfl (lv_at hl 2 rfl) ?_
          refine gf_field hx hb hj hown hK hP dX13_is_113 ?_
          refine lv_iload_n hx hb dX13_is_116 rfl (lv_at hl 1 rfl) ?_
          refine ld_field hx hb hK hP hI (by omega) (by omega) dX13_is_117 (fun h_15 => ?_)
          refine lv_goto (tgt := 122) hx hb dX13_is_118 (by decide) ?_
          rw [← hQ]
          exact W.iret (v := iI (a 29 p1)) hx hb hr (fun t ht hW => ⟨⟨iI (a 29 p1), (g, a), rfl, ⟨a 29 p1, rfl, rfl, hI, haA, by omega⟩, by rw [ht]; exact hP, va_K.moved hW.alike hK, hD⟩, hS.F ht⟩) hS.2.2 dX13_is_122
      · refine jtab_in (v := iI 3) (off := 94) (tgt := 123) hx hb dX13_is_29 (by rw [h_10]) (by decide) (by decide) (by decide) (by decide) ?_
        refine lv_iload hx hb dX13_is_123 (lv_at hl 0 rfl) ?_
        refine xr_if_eq (tgt := 137) hx hb dX13_is_125 (by decide) (by omega) (fun h_16 => ?_) (fun h_16 => ?_)
        · refine lv_iconst (v := iI (-1)) hx hb dX13_is_137 rfl ?_
          rw [← hQ]
          exact W.iret (v := iI (-1)) hx hb hr (fun t ht hW => ⟨⟨iI (-1), (g, a), rfl, ⟨(-1), rfl, rfl, hI, haA, by omega⟩, by rw [ht]; exact hP, va_K.moved hW.alike hK, hD⟩, hS.F ht⟩) hS.2.2 dX13_is_138
        · refine lv_aload_n hx hb dX13_is_128 rfl (lv_at hl 2 rfl) ?_
          refine gf_asked hx hb hj hown hK hP dX13_is_129 ?_
          refine lv_iload_n hx hb dX13_is_132 rfl (lv_at hl 1 rfl) ?_
          refine ld_asked hx hb hK hP hI (by omega) (by omega) dX13_is_133 (fun h_17 => ?_)
          refine lv_goto (tgt := 138) hx hb dX13_is_134 (by decide) ?_
          rw [← hQ]
          exact W.iret (v := iI (a 30 p1)) hx hb hr (fun t ht hW => ⟨⟨iI (a 30 p1), (g, a), rfl, ⟨a 30 p1, rfl, rfl, hI, haA, by omega⟩, by rw [ht]; exact hP, va_K.moved hW.alike hK, hD⟩, hS.F ht⟩) hS.2.2 dX13_is_138
      · refine jtab_in (v := iI 4) (off := 110) (tgt := 139) hx hb dX13_is_29 (by rw [h_10]) (by decide) (by decide) (by decide) (by decide) ?_
        refine lv_aload_n hx hb dX13_is_139 rfl (lv_at hl 2 rfl) ?_
        refine lv_iload_n hx hb dX13_is_140 rfl (lv_at hl 1 rfl) ?_
        refine jc_i (va_runV (As := [.int (iI p1)]) (rest := []) ⟨hx, hb, hml, hown, hts⟩ (sX13_linesOf l dC dI _ ad ca g a p1 hI (by omega)) (cwV 1 hts (jgoodV m_262 m_418 m_419 m_503 m_176) rfl rfl rfl (by decide +kernel) ⟨(Nat.le_of_ble_eq_true rfl), (Nat.le_of_ble_eq_true rfl)⟩) ⟨jw_blind, va_recv hK hP (ci := 13) (q0 := 0) rfl rfl, fun U hU hW => ⟨rfl, jw_of hU hW hP hK hD⟩⟩ rfl rfl hl.1 rfl (lv_room (Nat.le_of_ble_eq_true rfl)) dX13_is_141 ⟨(Nat.le_of_ble_eq_true rfl), (Nat.le_of_ble_eq_true rfl)⟩) hP hS hA (fun r_18 H locs w_19 hP hS => ?_)
        obtain ⟨z_20, rfl, h_21⟩ := w_19
        rw [← hQ]
        exact W.iret (v := iI z_20) hx hb hr (fun t ht hW => ⟨⟨iI z_20, (g, a), rfl, ⟨z_20, rfl, rfl, hI, haA, by omega⟩, by rw [ht]; exact hP, va_K.moved hW.alike hK, hD⟩, hS.F ht⟩) hS.2.2 dX13_is_144
      · refine jtab_in (v := iI 5) (off := 116) (tgt := 145) hx hb dX13_is_29 (by rw [h_10]) (by decide) (by decide) (by decide) (by decide) ?_
        refine lv_iload hx hb dX13_is_145 (lv_at hl 0 rfl) ?_
        refine xr_if_eq (tgt := 159) hx hb dX13_is_147 (by decide) (by omega) (fun h_22 => ?_) (fun h_22 => ?_)
        · refine lv_iconst (v := iI (-1)) hx hb dX13_is_159 rfl ?_
          rw [← hQ]
          exact W.iret (v := iI (-1)) hx hb hr (fun t ht hW => ⟨⟨iI (-1), (g, a), rfl, ⟨(-1), rfl, rfl, hI, haA, by omega⟩, by rw [ht]; exact hP, va_K.moved hW.alike hK, hD⟩, hS.F ht⟩) hS.2.2 dX13_is_160
        · refine lv_aload_n hx hb dX13_is_150 rfl (lv_at hl 2 rfl) ?_
          refine gf_givenTo hx hb hj hown hK hP dX13_is_151 ?_
          refine lv_iload_n hx hb dX13_is_154 rfl (lv_at hl 1 rfl) ?_
          refine ld_givenTo hx hb hK hP hI (by omega) (by omega) dX13_is_155 (fun h_23 => ?_)
          refine lv_goto (tgt := 160) hx hb dX13_is_156 (by decide) ?_
          rw [← hQ]
          exact W.iret (v := iI (a 32 p1)) hx hb hr (fun t ht hW => ⟨⟨iI (a 32 p1), (g, a), rfl, ⟨a 32 p1, rfl, rfl, hI, haA, by omega⟩, by rw [ht]; exact hP, va_K.moved hW.alike hK, hD⟩, hS.F ht⟩) hS.2.2 dX13_is_160
      · refine jtab_in (v := iI 6) (off := 132) (tgt := 161) hx hb dX13_is_29 (by rw [h_10]) (by decide) (by decide) (by decide) (by decide) ?_
        refine lv_iload hx hb dX13_is_161 (lv_at hl 0 rfl) ?_
        refine xr_if_eq (tgt := 182) hx hb dX13_is_163 (by decide) (by omega) (fun h_24 => ?_) (fun h_24 => ?_)
        · refine lv_iconst (v := iI (-1)) hx hb dX13_is_182 rfl ?_
          rw [← hQ]
          exact W.iret (v := iI (-1)) hx hb hr (fun t ht hW => ⟨⟨iI (-1), (g, a), rfl, ⟨(-1), rfl, rfl, hI, haA, by omega⟩, by rw [ht]; exact hP, va_K.moved hW.alike hK, hD⟩, hS.F ht⟩) hS.2.2 dX13_is_183
        · refine lv_aload_n hx hb dX13_is_166 rfl (lv_at hl 2 rfl) ?_
          refine lv_iload_n hx hb dX13_is_167 rfl (lv_at hl 1 rfl) ?_
          refine jc_i (va_runV (As := [.int (iI p1)]) (rest := []) ⟨hx, hb, hml, hown, hts⟩ (sX13_isDone l dC dI _ ad ca g a p1 hI (by omega) (by omega)) (cwV 1 hts (jgoodV m_263 m_376 m_377 m_503 m_154) rfl rfl rfl (by decide +kernel) ⟨(Nat.le_of_ble_eq_true rfl), (Nat.le_of_ble_eq_true rfl)⟩) ⟨jw_blind, va_recv hK hP (ci := 13) (q0 := 0) rfl rfl, fun U hU hW => ⟨rfl, jw_of hU hW hP hK hD⟩⟩ rfl rfl hl.1 rfl (lv_room (Nat.le_of_ble_eq_true rfl)) dX13_is_168 ⟨(Nat.le_of_ble_eq_true rfl), (Nat.le_of_ble_eq_true rfl)⟩) hP hS hA (fun r_25 H locs w_26 hP hS => ?_)
          obtain ⟨z_27, rfl, h_28⟩ := w_26
          refine xr_if_eq (tgt := 178) hx hb dX13_is_171 (by decide) (by omega) (fun h_29 => ?_) (fun h_29 => ?_)
          · refine lv_iconst (v := iI 0) hx hb dX13_is_178 rfl ?_
            refine lv_goto (tgt := 183) hx hb dX13_is_179 (by decide) ?_
            rw [← hQ]
            exact W.iret (v := iI 0) hx hb hr (fun t ht hW => ⟨⟨iI 0, (g, a), rfl, ⟨0, rfl, rfl, hI, haA, by omega⟩, by rw [ht]; exact hP, va_K.moved hW.alike hK, hD⟩, hS.F ht⟩) hS.2.2 dX13_is_183
          · refine lv_iconst (v := iI 1) hx hb dX13_is_174 rfl ?_
            refine lv_goto (tgt := 183) hx hb dX13_is_175 (by decide) ?_
            rw [← hQ]
            exact W.iret (v := iI 1) hx hb hr (fun t ht hW => ⟨⟨iI 1, (g, a), rfl, ⟨1, rfl, rfl, hI, haA, by omega⟩, by rw [ht]; exact hP, va_K.moved hW.alike hK, hD⟩, hS.F ht⟩) hS.2.2 dX13_is_183
      · refine jtab_in (v := iI 7) (off := 155) (tgt := 184) hx hb dX13_is_29 (by rw [h_10]) (by decide) (by decide) (by decide) (by decide) ?_
        refine lv_aload_n hx hb dX13_is_184 rfl (lv_at hl 2 rfl) ?_
        refine gf_isStruck hx hb hj hown hK hP dX13_is_185 ?_
        refine lv_iload_n hx hb dX13_is_188 rfl (lv_at hl 1 rfl) ?_
        refine ld_isStruck hx hb hK hP hI (by omega) (by omega) dX13_is_189 (fun h_30 => ?_)
        refine xr_if_eq (tgt := 197) hx hb dX13_is_190 (by decide) (by omega) (fun h_31 => ?_) (fun h_31 => ?_)
        · refine lv_aload_n hx hb dX13_is_197 rfl (lv_at hl 2 rfl) ?_
          refine lv_iload_n hx hb dX13_is_198 rfl (lv_at hl 1 rfl) ?_
          refine jcg_i (va_runV (As := [.int (iI p1)]) (rest := []) ⟨hx, hb, hml, hown, hts⟩ (sX13_volumeOf l dC dI _ ad ca g a p1 hI (by omega) (by omega) hrSh) (cwV 1 hts (jgoodV m_257 m_494 m_495 m_503 m_215) rfl rfl rfl (by decide +kernel) ⟨(Nat.le_of_ble_eq_true rfl), (Nat.le_of_ble_eq_true rfl)⟩) ⟨jw_blind, va_recv hK hP (ci := 13) (q0 := 0) rfl rfl, fun U hU hW => ⟨rfl, jw_of hU hW hP hK hD⟩⟩ rfl rfl hl.1 rfl (lv_room (Nat.le_of_ble_eq_true rfl)) dX13_is_199 ⟨(Nat.le_of_ble_eq_true rfl), (Nat.le_of_ble_eq_true rfl)⟩) hD hS hA (fun r_32 u_38 H locs w_33 hP hK hD hS => ?_)
          obtain ⟨g_36, a_37⟩ := u_38
          obtain ⟨z_34, rfl, e_40, hI, hfr_39, h_35⟩ := w_33
          have hP : va_P (dC, dI) vwCl (mG ad ca g_36 a_37) H := hP
          have hD : va_D A (mG ad ca g_36 a_37) := hD
          have e_40 : g = g_36 := e_40.symm
          subst e_40
          have haA : ∀ j, j ∉ ([63, 64] : List Nat) → a_37 j = a j := fun j h => (hfr_39 j (fun q => h (by first | exact q | (simp only [List.mem_cons, List.not_mem_nil, or_false] at q ⊢ <;> omega)))).trans (haA j h)
          refine lv_bipush (v := iI 6) hx hb dX13_is_202 rfl ?_
          refine xr_icmp_ne (tgt := 211) hx hb dX13_is_204 (by decide) (by omega) (by omega) (fun h_41 => ?_) (fun h_41 => ?_)
          · refine lv_iconst (v := iI 0) hx hb dX13_is_211 rfl ?_
            rw [← hQ]
            exact W.iret (v := iI 0) hx hb hr (fun t ht hW => ⟨⟨iI 0, (g, a_37), rfl, ⟨0, rfl, rfl, hI, haA, by omega⟩, by rw [ht]; exact hP, va_K.moved hW.alike hK, hD⟩, hS.F ht⟩) hS.2.2 dX13_is_212
          · refine lv_iconst (v := iI 2) hx hb dX13_is_207 rfl ?_
            refine lv_goto (tgt := 212) hx hb dX13_is_208 (by decide) ?_
            rw [← hQ]
            exact W.iret (v := iI 2) hx hb hr (fun t ht hW => ⟨⟨iI 2, (g, a_37), rfl, ⟨2, rfl, rfl, hI, haA, by omega⟩, by rw [ht]; exact hP, va_K.moved hW.alike hK, hD⟩, hS.F ht⟩) hS.2.2 dX13_is_212
        · refine lv_iconst (v := iI 1) hx hb dX13_is_193 rfl ?_
          refine lv_goto (tgt := 212) hx hb dX13_is_194 (by decide) ?_
          rw [← hQ]
          exact W.iret (v := iI 1) hx hb hr (fun t ht hW => ⟨⟨iI 1, (g, a), rfl, ⟨1, rfl, rfl, hI, haA, by omega⟩, by rw [ht]; exact hP, va_K.moved hW.alike hK, hD⟩, hS.F ht⟩) hS.2.2 dX13_is_212
      · refine jtab_in (v := iI 8) (off := 184) (tgt := 213) hx hb dX13_is_29 (by rw [h_10]) (by decide) (by decide) (by decide) (by decide) ?_
        refine lv_iload hx hb dX13_is_213 (lv_at hl 0 rfl) ?_
        refine xr_if_eq (tgt := 234) hx hb dX13_is_215 (by decide) (by omega) (fun h_42 => ?_) (fun h_42 => ?_)
        · refine lv_iconst (v := iI (-1)) hx hb dX13_is_234 rfl ?_
          rw [← hQ]
          exact W.iret (v := iI (-1)) hx hb hr (fun t ht hW => ⟨⟨iI (-1), (g, a), rfl, ⟨(-1), rfl, rfl, hI, haA, by omega⟩, by rw [ht]; exact hP, va_K.moved hW.alike hK, hD⟩, hS.F ht⟩) hS.2.2 dX13_is_235
        · refine lv_aload_n hx hb dX13_is_218 rfl (lv_at hl 2 rfl) ?_
          refine lv_iload_n hx hb dX13_is_219 rfl (lv_at hl 1 rfl) ?_
          refine jc_i (va_runV (As := [.int (iI p1)]) (rest := []) ⟨hx, hb, hml, hown, hts⟩ (sX13_hangs l dC dI _ ad ca g a p1 hI (by omega) (by omega)) (cwV 1 hts (jgoodV m_271 m_358 m_359 m_503 m_144) rfl rfl rfl (by decide +kernel) ⟨(Nat.le_of_ble_eq_true rfl), (Nat.le_of_ble_eq_true rfl)⟩) ⟨jw_blind, va_recv hK hP (ci := 13) (q0 := 0) rfl rfl, fun U hU hW => ⟨rfl, jw_of hU hW hP hK hD⟩⟩ rfl rfl hl.1 rfl (lv_room (Nat.le_of_ble_eq_true rfl)) dX13_is_220 ⟨(Nat.le_of_ble_eq_true rfl), (Nat.le_of_ble_eq_true rfl)⟩) hP hS hA (fun r_43 H locs w_44 hP hS => ?_)
          obtain ⟨z_45, rfl, h_46⟩ := w_44
          refine xr_if_eq (tgt := 230) hx hb dX13_is_223 (by decide) (by omega) (fun h_47 => ?_) (fun h_47 => ?_)
          · refine lv_iconst (v := iI 0) hx hb dX13_is_230 rfl ?_
            refine lv_goto (tgt := 235) hx hb dX13_is_231 (by decide) ?_
            rw [← hQ]
            exact W.iret (v := iI 0) hx hb hr (fun t ht hW => ⟨⟨iI 0, (g, a), rfl, ⟨0, rfl, rfl, hI, haA, by omega⟩, by rw [ht]; exact hP, va_K.moved hW.alike hK, hD⟩, hS.F ht⟩) hS.2.2 dX13_is_235
          · refine lv_iconst (v := iI 1) hx hb dX13_is_226 rfl ?_
            refine lv_goto (tgt := 235) hx hb dX13_is_227 (by decide) ?_
            rw [← hQ]
            exact W.iret (v := iI 1) hx hb hr (fun t ht hW => ⟨⟨iI 1, (g, a), rfl, ⟨1, rfl, rfl, hI, haA, by omega⟩, by rw [ht]; exact hP, va_K.moved hW.alike hK, hD⟩, hS.F ht⟩) hS.2.2 dX13_is_235
      · refine jtab_in (v := iI 9) (off := 207) (tgt := 236) hx hb dX13_is_29 (by rw [h_10]) (by decide) (by decide) (by decide) (by decide) ?_
        refine lv_aload_n hx hb dX13_is_236 rfl (lv_at hl 2 rfl) ?_
        refine gf_setWith hx hb hj hown hK hP dX13_is_237 ?_
        refine lv_iload_n hx hb dX13_is_240 rfl (lv_at hl 1 rfl) ?_
        refine ld_setWith hx hb hK hP hI (by omega) (by omega) dX13_is_241 (fun h_48 => ?_)
        refine lv_iconst (v := iI (-1)) hx hb dX13_is_242 rfl ?_
        refine xr_icmp_eq (tgt := 250) hx hb dX13_is_243 (by decide) (by omega) (by omega) (fun h_49 => ?_) (fun h_49 => ?_)
        · refine lv_iconst (v := iI 0) hx hb dX13_is_250 rfl ?_
          rw [← hQ]
          exact W.iret (v := iI 0) hx hb hr (fun t ht hW => ⟨⟨iI 0, (g, a), rfl, ⟨0, rfl, rfl, hI, haA, by omega⟩, by rw [ht]; exact hP, va_K.moved hW.alike hK, hD⟩, hS.F ht⟩) hS.2.2 dX13_is_251
        · refine lv_iconst (v := iI 1) hx hb dX13_is_246 rfl ?_
          refine lv_goto (tgt := 251) hx hb dX13_is_247 (by decide) ?_
          rw [← hQ]
          exact W.iret (v := iI 1) hx hb hr (fun t ht hW => ⟨⟨iI 1, (g, a), rfl, ⟨1, rfl, rfl, hI, haA, by omega⟩, by rw [ht]; exact hP, va_K.moved hW.alike hK, hD⟩, hS.F ht⟩) hS.2.2 dX13_is_251
    refine xr_if_ne (tgt := 25) hx hb dX13_is_18 (by decide) (by omega) (fun h_50 => ?_) (fun h_50 => ?_)
    · refine lv_iconst (v := iI 0) hx hb dX13_is_25 rfl ?_
      exact J26 0 H locs ls (by omega) hP hD hS hl
    · refine lv_iconst (v := iI 1) hx hb dX13_is_21 rfl ?_
      refine lv_goto (tgt := 26) hx hb dX13_is_22 (by decide) ?_
      exact J26 1 H locs ls (by omega) hP hD hS hl
  · refine lv_iconst (v := iI (-1)) hx hb dX13_is_8 rfl ?_
    rw [← hQ]
    exact W.iret (v := iI (-1)) hx hb hr (fun t ht hW => ⟨⟨iI (-1), (g, a), rfl, ⟨(-1), rfl, rfl, hI, haA, by omega⟩, by rw [ht]; exact hP, va_K.moved hW.alike hK, hD⟩, hS.F ht⟩) hS.2.2 dX13_is_9
